def wsX9_many : List Cond := .code yX9_many cX9_many 3 (some .int) :: ((wsX9_many_r1 ++ (wsX9_many_r2 ++ (wsX9_many_r3 ++ wsX9_many_r4))) ++ wsX90)
def wsX9_best_r1 : List Cond := [Cond.fieldLink RX9 58 "HallDeskModel" "thrown" "I", Cond.fieldLink RX9 159 "HallDeskModel" "bestAt" "I", Cond.fieldLink RX9 84 "HallDeskModel" "hand" "I", Cond.methodLink RX9 162 yX9_isAsked, Cond.static yX9_isAsked, Cond.initialized RX9, Cond.code yX9_isAsked cX9_isAsked 2 (some .boolean), Cond.methodLink RX9 144 yX9_isKind, Cond.static yX9_isKind, Cond.code yX9_isKind cX9_isKind 1 (some .boolean), Cond.methodLink RX9 91 yX9_in, Cond.static yX9_in, Cond.code yX9_in cX9_in 3 (some .boolean), Cond.methodLink RX9 165 yX9_search, Cond.instanceMethod yX9_search, Cond.selects RX9 yX9_search yX9_search, Cond.code yX9_search cX9_search 6 none, Cond.constant RX9 121 (2000000000), Cond.fieldLink RX9 153 "HallDeskModel" "leastCost" "I", Cond.fieldLink RX9 156 "HallDeskModel" "bestMany" "I", Cond.methodLink RX9 87 yX9_allHalls, Cond.instanceMethod yX9_allHalls, Cond.selects RX9 yX9_allHalls yX9_allHalls, Cond.code yX9_allHalls cX9_allHalls 1 (some .int)]
def wsX9_best_r2 : List Cond := [Cond.fieldLink RX9 71 "HallDeskModel" "halls" "I", Cond.methodLink RX9 128 yX9_sizeOf, Cond.static yX9_sizeOf, Cond.code yX9_sizeOf cX9_sizeOf 3 (some .int), Cond.methodLink RX9 147 yX9_costOf, Cond.instanceMethod yX9_costOf, Cond.selects RX9 yX9_costOf yX9_costOf, Cond.code yX9_costOf cX9_costOf 7 (some .int), Cond.fieldLink RX9 68 "HallDeskModel" "towns" "I", Cond.fieldLink RX9 7 "HallDeskModel" "people" "[I", Cond.fieldLink RX9 13 "HallDeskModel" "fine" "[I", Cond.methodLink RX9 118 yX9_allTowns, Cond.instanceMethod yX9_allTowns, Cond.selects RX9 yX9_allTowns yX9_allTowns, Cond.code yX9_allTowns cX9_allTowns 1 (some .int), Cond.methodLink RX9 122 yX9_sumOf, Cond.instanceMethod yX9_sumOf, Cond.selects RX9 yX9_sumOf yX9_sumOf, Cond.code yX9_sumOf cX9_sumOf 5 (some .int), Cond.methodLink RX9 111 yX9_has, Cond.static yX9_has, Cond.code yX9_has cX9_has 2 (some .boolean), Cond.methodLink RX9 115 yX9_nearest, Cond.instanceMethod yX9_nearest]
def wsX9_best_r3 : List Cond := [Cond.selects RX9 yX9_nearest yX9_nearest, Cond.code yX9_nearest cX9_nearest 5 (some .int), Cond.methodLink RX9 107 yX9_wayOf, Cond.instanceMethod yX9_wayOf, Cond.selects RX9 yX9_wayOf yX9_wayOf, Cond.code yX9_wayOf cX9_wayOf 3 (some .int), Cond.fieldLink RX9 25 "HallDeskModel" "width" "[I", Cond.fieldLink RX9 28 "HallDeskModel" "places" "[I", Cond.fieldLink RX9 31 "HallDeskModel" "ways" "[I", Cond.constant RX9 106 (1000000), Cond.methodLink RX9 132 yX9_pricesOf, Cond.instanceMethod yX9_pricesOf, Cond.selects RX9 yX9_pricesOf yX9_pricesOf, Cond.code yX9_pricesOf cX9_pricesOf 4 (some .int), Cond.fieldLink RX9 19 "HallDeskModel" "price" "[I", Cond.methodLink RX9 135 yX9_roomedOf, Cond.instanceMethod yX9_roomedOf, Cond.selects RX9 yX9_roomedOf yX9_roomedOf, Cond.code yX9_roomedOf cX9_roomedOf 8 (some .int), Cond.fieldLink RX9 40 "HallDeskModel" "housed" "[I", Cond.fieldLink RX9 43 "HallDeskModel" "heapWay" "[I", Cond.fieldLink RX9 22 "HallDeskModel" "room" "[I", Cond.methodLink RX9 138 yX9_worstClosed, Cond.instanceMethod yX9_worstClosed]
def wsX9_best_r4 : List Cond := [Cond.selects RX9 yX9_worstClosed yX9_worstClosed, Cond.code yX9_worstClosed cX9_worstClosed 6 (some .int), Cond.methodLink RX9 141 yX9_worstRival, Cond.instanceMethod yX9_worstRival, Cond.selects RX9 yX9_worstRival yX9_worstRival, Cond.code yX9_worstRival cX9_worstRival 4 (some .int), Cond.methodLink RX9 125 yX9_taken, Cond.instanceMethod yX9_taken, Cond.selects RX9 yX9_taken yX9_taken, Cond.code yX9_taken cX9_taken 5 (some .int)]
def wsX9_best : List Cond := .code yX9_best cX9_best 4 (some .int) :: ((wsX9_best_r1 ++ (wsX9_best_r2 ++ (wsX9_best_r3 ++ wsX9_best_r4))) ++ wsX90)
def wsX9_number_r1 : List Cond := [Cond.fieldLink RX9 58 "HallDeskModel" "thrown" "I", Cond.fieldLink RX9 84 "HallDeskModel" "hand" "I", Cond.fieldLink RX9 153 "HallDeskModel" "leastCost" "I", Cond.constant RX9 121 (2000000000), Cond.methodLink RX9 162 yX9_isAsked, Cond.static yX9_isAsked, Cond.initialized RX9, Cond.code yX9_isAsked cX9_isAsked 2 (some .boolean), Cond.methodLink RX9 144 yX9_isKind, Cond.static yX9_isKind, Cond.code yX9_isKind cX9_isKind 1 (some .boolean), Cond.methodLink RX9 91 yX9_in, Cond.static yX9_in, Cond.code yX9_in cX9_in 3 (some .boolean), Cond.methodLink RX9 165 yX9_search, Cond.instanceMethod yX9_search, Cond.selects RX9 yX9_search yX9_search, Cond.code yX9_search cX9_search 6 none, Cond.fieldLink RX9 156 "HallDeskModel" "bestMany" "I", Cond.fieldLink RX9 159 "HallDeskModel" "bestAt" "I", Cond.methodLink RX9 87 yX9_allHalls, Cond.instanceMethod yX9_allHalls, Cond.selects RX9 yX9_allHalls yX9_allHalls, Cond.code yX9_allHalls cX9_allHalls 1 (some .int)]
def wsX9_number_r2 : List Cond := [Cond.fieldLink RX9 71 "HallDeskModel" "halls" "I", Cond.methodLink RX9 128 yX9_sizeOf, Cond.static yX9_sizeOf, Cond.code yX9_sizeOf cX9_sizeOf 3 (some .int), Cond.methodLink RX9 147 yX9_costOf, Cond.instanceMethod yX9_costOf, Cond.selects RX9 yX9_costOf yX9_costOf, Cond.code yX9_costOf cX9_costOf 7 (some .int), Cond.fieldLink RX9 68 "HallDeskModel" "towns" "I", Cond.fieldLink RX9 7 "HallDeskModel" "people" "[I", Cond.fieldLink RX9 13 "HallDeskModel" "fine" "[I", Cond.methodLink RX9 118 yX9_allTowns, Cond.instanceMethod yX9_allTowns, Cond.selects RX9 yX9_allTowns yX9_allTowns, Cond.code yX9_allTowns cX9_allTowns 1 (some .int), Cond.methodLink RX9 122 yX9_sumOf, Cond.instanceMethod yX9_sumOf, Cond.selects RX9 yX9_sumOf yX9_sumOf, Cond.code yX9_sumOf cX9_sumOf 5 (some .int), Cond.methodLink RX9 111 yX9_has, Cond.static yX9_has, Cond.code yX9_has cX9_has 2 (some .boolean), Cond.methodLink RX9 115 yX9_nearest, Cond.instanceMethod yX9_nearest]
def wsX9_number_r3 : List Cond := [Cond.selects RX9 yX9_nearest yX9_nearest, Cond.code yX9_nearest cX9_nearest 5 (some .int), Cond.methodLink RX9 107 yX9_wayOf, Cond.instanceMethod yX9_wayOf, Cond.selects RX9 yX9_wayOf yX9_wayOf, Cond.code yX9_wayOf cX9_wayOf 3 (some .int), Cond.fieldLink RX9 25 "HallDeskModel" "width" "[I", Cond.fieldLink RX9 28 "HallDeskModel" "places" "[I", Cond.fieldLink RX9 31 "HallDeskModel" "ways" "[I", Cond.constant RX9 106 (1000000), Cond.methodLink RX9 132 yX9_pricesOf, Cond.instanceMethod yX9_pricesOf, Cond.selects RX9 yX9_pricesOf yX9_pricesOf, Cond.code yX9_pricesOf cX9_pricesOf 4 (some .int), Cond.fieldLink RX9 19 "HallDeskModel" "price" "[I", Cond.methodLink RX9 135 yX9_roomedOf, Cond.instanceMethod yX9_roomedOf, Cond.selects RX9 yX9_roomedOf yX9_roomedOf, Cond.code yX9_roomedOf cX9_roomedOf 8 (some .int), Cond.fieldLink RX9 40 "HallDeskModel" "housed" "[I", Cond.fieldLink RX9 43 "HallDeskModel" "heapWay" "[I", Cond.fieldLink RX9 22 "HallDeskModel" "room" "[I", Cond.methodLink RX9 138 yX9_worstClosed, Cond.instanceMethod yX9_worstClosed]
def wsX9_number_r4 : List Cond := [Cond.selects RX9 yX9_worstClosed yX9_worstClosed, Cond.code yX9_worstClosed cX9_worstClosed 6 (some .int), Cond.methodLink RX9 141 yX9_worstRival, Cond.instanceMethod yX9_worstRival, Cond.selects RX9 yX9_worstRival yX9_worstRival, Cond.code yX9_worstRival cX9_worstRival 4 (some .int), Cond.methodLink RX9 125 yX9_taken, Cond.instanceMethod yX9_taken, Cond.selects RX9 yX9_taken yX9_taken, Cond.code yX9_taken cX9_taken 5 (some .int)]
def wsX9_number : List Cond := .code yX9_number cX9_number 5 (some .int) :: ((wsX9_number_r1 ++ (wsX9_number_r2 ++ (wsX9_number_r3 ++ wsX9_number_r4))) ++ wsX90)
def wsX9_areNear : List Cond := .code yX9_areNear cX9_areNear 4 (some .boolean) :: ([.methodLink RX9 128 yX9_sizeOf, .static yX9_sizeOf, .initialized RX9, .code yX9_sizeOf cX9_sizeOf 3 (some .int)])
def wsX9_better_r1 : List Cond := [Cond.fieldLink RX9 58 "HallDeskModel" "thrown" "I", Cond.fieldLink RX9 84 "HallDeskModel" "hand" "I", Cond.methodLink RX9 144 yX9_isKind, Cond.static yX9_isKind, Cond.initialized RX9, Cond.code yX9_isKind cX9_isKind 1 (some .boolean), Cond.methodLink RX9 91 yX9_in, Cond.static yX9_in, Cond.code yX9_in cX9_in 3 (some .boolean), Cond.methodLink RX9 147 yX9_costOf, Cond.instanceMethod yX9_costOf, Cond.selects RX9 yX9_costOf yX9_costOf, Cond.code yX9_costOf cX9_costOf 7 (some .int), Cond.fieldLink RX9 68 "HallDeskModel" "towns" "I", Cond.constant RX9 121 (2000000000), Cond.fieldLink RX9 7 "HallDeskModel" "people" "[I", Cond.fieldLink RX9 13 "HallDeskModel" "fine" "[I", Cond.methodLink RX9 128 yX9_sizeOf, Cond.static yX9_sizeOf, Cond.code yX9_sizeOf cX9_sizeOf 3 (some .int), Cond.methodLink RX9 118 yX9_allTowns, Cond.instanceMethod yX9_allTowns, Cond.selects RX9 yX9_allTowns yX9_allTowns, Cond.code yX9_allTowns cX9_allTowns 1 (some .int)]
def wsX9_better_r2 : List Cond := [Cond.methodLink RX9 122 yX9_sumOf, Cond.instanceMethod yX9_sumOf, Cond.selects RX9 yX9_sumOf yX9_sumOf, Cond.code yX9_sumOf cX9_sumOf 5 (some .int), Cond.methodLink RX9 111 yX9_has, Cond.static yX9_has, Cond.code yX9_has cX9_has 2 (some .boolean), Cond.methodLink RX9 115 yX9_nearest, Cond.instanceMethod yX9_nearest, Cond.selects RX9 yX9_nearest yX9_nearest, Cond.code yX9_nearest cX9_nearest 5 (some .int), Cond.fieldLink RX9 71 "HallDeskModel" "halls" "I", Cond.methodLink RX9 107 yX9_wayOf, Cond.instanceMethod yX9_wayOf, Cond.selects RX9 yX9_wayOf yX9_wayOf, Cond.code yX9_wayOf cX9_wayOf 3 (some .int), Cond.fieldLink RX9 25 "HallDeskModel" "width" "[I", Cond.fieldLink RX9 28 "HallDeskModel" "places" "[I", Cond.fieldLink RX9 31 "HallDeskModel" "ways" "[I", Cond.constant RX9 106 (1000000), Cond.methodLink RX9 132 yX9_pricesOf, Cond.instanceMethod yX9_pricesOf, Cond.selects RX9 yX9_pricesOf yX9_pricesOf, Cond.code yX9_pricesOf cX9_pricesOf 4 (some .int)]
def wsX9_better_r3 : List Cond := [Cond.fieldLink RX9 19 "HallDeskModel" "price" "[I", Cond.methodLink RX9 135 yX9_roomedOf, Cond.instanceMethod yX9_roomedOf, Cond.selects RX9 yX9_roomedOf yX9_roomedOf, Cond.code yX9_roomedOf cX9_roomedOf 8 (some .int), Cond.fieldLink RX9 40 "HallDeskModel" "housed" "[I", Cond.fieldLink RX9 43 "HallDeskModel" "heapWay" "[I", Cond.fieldLink RX9 22 "HallDeskModel" "room" "[I", Cond.methodLink RX9 138 yX9_worstClosed, Cond.instanceMethod yX9_worstClosed, Cond.selects RX9 yX9_worstClosed yX9_worstClosed, Cond.code yX9_worstClosed cX9_worstClosed 6 (some .int), Cond.methodLink RX9 141 yX9_worstRival, Cond.instanceMethod yX9_worstRival, Cond.selects RX9 yX9_worstRival yX9_worstRival, Cond.code yX9_worstRival cX9_worstRival 4 (some .int), Cond.methodLink RX9 125 yX9_taken, Cond.instanceMethod yX9_taken, Cond.selects RX9 yX9_taken yX9_taken, Cond.code yX9_taken cX9_taken 5 (some .int), Cond.methodLink RX9 87 yX9_allHalls, Cond.instanceMethod yX9_allHalls, Cond.selects RX9 yX9_allHalls yX9_allHalls, Cond.code yX9_allHalls cX9_allHalls 1 (some .int)]
def wsX9_better_r4 : List Cond := [Cond.methodLink RX9 169 yX9_areNear, Cond.static yX9_areNear, Cond.code yX9_areNear cX9_areNear 4 (some .boolean)]
def wsX9_better : List Cond := .code yX9_better cX9_better 9 (some .int) :: ((wsX9_better_r1 ++ (wsX9_better_r2 ++ (wsX9_better_r3 ++ wsX9_better_r4))) ++ wsX90)
def wsX9_claim : List Cond := .code yX9_claim cX9_claim 4 (some .int) :: ([.fieldLink RX9 58 "HallDeskModel" "thrown" "I", .constant RX9 106 (1000000), .fieldLink RX9 37 "HallDeskModel" "claims" "[I", .methodLink RX9 98 yX9_isTown, .instanceMethod yX9_isTown, .selects RX9 yX9_isTown yX9_isTown, .initialized RX9, .code yX9_isTown cX9_isTown 2 (some .boolean), .fieldLink RX9 68 "HallDeskModel" "towns" "I", .methodLink RX9 91 yX9_in, .static yX9_in, .code yX9_in cX9_in 3 (some .boolean)] ++ wsX90)
def wsX9_claimed : List Cond := .code yX9_claimed cX9_claimed 2 (some .int) :: ([.fieldLink RX9 58 "HallDeskModel" "thrown" "I", .fieldLink RX9 37 "HallDeskModel" "claims" "[I", .methodLink RX9 98 yX9_isTown, .instanceMethod yX9_isTown, .selects RX9 yX9_isTown yX9_isTown, .initialized RX9, .code yX9_isTown cX9_isTown 2 (some .boolean), .fieldLink RX9 68 "HallDeskModel" "towns" "I", .methodLink RX9 91 yX9_in, .static yX9_in, .code yX9_in cX9_in 3 (some .boolean)] ++ wsX90)
def wsX9_together : List Cond := .code yX9_together cX9_together 4 (some .int) :: ([.fieldLink RX9 68 "HallDeskModel" "towns" "I", .fieldLink RX9 37 "HallDeskModel" "claims" "[I", .methodLink RX9 111 yX9_has, .static yX9_has, .initialized RX9, .code yX9_has cX9_has 2 (some .boolean)] ++ wsX90)
def wsX9_notHeld : List Cond := .code yX9_notHeld cX9_notHeld 5 (some .int) :: ([.fieldLink RX9 71 "HallDeskModel" "halls" "I", .fieldLink RX9 68 "HallDeskModel" "towns" "I", .fieldLink RX9 37 "HallDeskModel" "claims" "[I", .fieldLink RX9 7 "HallDeskModel" "people" "[I", .fieldLink RX9 19 "HallDeskModel" "price" "[I", .methodLink RX9 107 yX9_wayOf, .instanceMethod yX9_wayOf, .selects RX9 yX9_wayOf yX9_wayOf, .initialized RX9, .code yX9_wayOf cX9_wayOf 3 (some .int), .fieldLink RX9 25 "HallDeskModel" "width" "[I", .fieldLink RX9 28 "HallDeskModel" "places" "[I", .fieldLink RX9 31 "HallDeskModel" "ways" "[I", .constant RX9 106 (1000000)] ++ wsX90)
def wsX9_holds_r1 : List Cond := [Cond.fieldLink RX9 58 "HallDeskModel" "thrown" "I", Cond.methodLink RX9 172 yX9_notHeld, Cond.instanceMethod yX9_notHeld, Cond.selects RX9 yX9_notHeld yX9_notHeld, Cond.initialized RX9, Cond.code yX9_notHeld cX9_notHeld 5 (some .int), Cond.fieldLink RX9 71 "HallDeskModel" "halls" "I", Cond.fieldLink RX9 68 "HallDeskModel" "towns" "I", Cond.fieldLink RX9 37 "HallDeskModel" "claims" "[I", Cond.fieldLink RX9 7 "HallDeskModel" "people" "[I", Cond.fieldLink RX9 19 "HallDeskModel" "price" "[I", Cond.methodLink RX9 107 yX9_wayOf, Cond.instanceMethod yX9_wayOf, Cond.selects RX9 yX9_wayOf yX9_wayOf, Cond.code yX9_wayOf cX9_wayOf 3 (some .int), Cond.fieldLink RX9 25 "HallDeskModel" "width" "[I", Cond.fieldLink RX9 28 "HallDeskModel" "places" "[I", Cond.fieldLink RX9 31 "HallDeskModel" "ways" "[I", Cond.constant RX9 106 (1000000), Cond.methodLink RX9 118 yX9_allTowns, Cond.instanceMethod yX9_allTowns, Cond.selects RX9 yX9_allTowns yX9_allTowns, Cond.code yX9_allTowns cX9_allTowns 1 (some .int), Cond.methodLink RX9 175 yX9_together]
def wsX9_holds_r2 : List Cond := [Cond.instanceMethod yX9_together, Cond.selects RX9 yX9_together yX9_together, Cond.code yX9_together cX9_together 4 (some .int), Cond.methodLink RX9 111 yX9_has, Cond.static yX9_has, Cond.code yX9_has cX9_has 2 (some .boolean)]
def wsX9_holds : List Cond := .code yX9_holds cX9_holds 2 (some .int) :: ((wsX9_holds_r1 ++ wsX9_holds_r2) ++ wsX90)
def wsX9_raise_r1 : List Cond := [Cond.fieldLink RX9 58 "HallDeskModel" "thrown" "I", Cond.fieldLink RX9 71 "HallDeskModel" "halls" "I", Cond.fieldLink RX9 37 "HallDeskModel" "claims" "[I", Cond.fieldLink RX9 68 "HallDeskModel" "towns" "I", Cond.methodLink RX9 172 yX9_notHeld, Cond.instanceMethod yX9_notHeld, Cond.selects RX9 yX9_notHeld yX9_notHeld, Cond.initialized RX9, Cond.code yX9_notHeld cX9_notHeld 5 (some .int), Cond.fieldLink RX9 7 "HallDeskModel" "people" "[I", Cond.fieldLink RX9 19 "HallDeskModel" "price" "[I", Cond.methodLink RX9 107 yX9_wayOf, Cond.instanceMethod yX9_wayOf, Cond.selects RX9 yX9_wayOf yX9_wayOf, Cond.code yX9_wayOf cX9_wayOf 3 (some .int), Cond.fieldLink RX9 25 "HallDeskModel" "width" "[I", Cond.fieldLink RX9 28 "HallDeskModel" "places" "[I", Cond.fieldLink RX9 31 "HallDeskModel" "ways" "[I", Cond.constant RX9 106 (1000000), Cond.methodLink RX9 118 yX9_allTowns, Cond.instanceMethod yX9_allTowns, Cond.selects RX9 yX9_allTowns yX9_allTowns, Cond.code yX9_allTowns cX9_allTowns 1 (some .int), Cond.methodLink RX9 175 yX9_together]
def wsX9_raise_r2 : List Cond := [Cond.instanceMethod yX9_together, Cond.selects RX9 yX9_together yX9_together, Cond.code yX9_together cX9_together 4 (some .int), Cond.methodLink RX9 111 yX9_has, Cond.static yX9_has, Cond.code yX9_has cX9_has 2 (some .boolean)]
def wsX9_raise : List Cond := .code yX9_raise cX9_raise 4 (some .int) :: ((wsX9_raise_r1 ++ wsX9_raise_r2) ++ wsX90)
def wsX9_findHeaps_r1 : List Cond := [Cond.fieldLink RX9 52 "HallDeskModel" "heap" "[I", Cond.constant RX9 121 (2000000000), Cond.methodLink RX9 118 yX9_allTowns, Cond.instanceMethod yX9_allTowns, Cond.selects RX9 yX9_allTowns yX9_allTowns, Cond.initialized RX9, Cond.code yX9_allTowns cX9_allTowns 1 (some .int), Cond.fieldLink RX9 68 "HallDeskModel" "towns" "I", Cond.methodLink RX9 87 yX9_allHalls, Cond.instanceMethod yX9_allHalls, Cond.selects RX9 yX9_allHalls yX9_allHalls, Cond.code yX9_allHalls cX9_allHalls 1 (some .int), Cond.fieldLink RX9 71 "HallDeskModel" "halls" "I", Cond.methodLink RX9 122 yX9_sumOf, Cond.instanceMethod yX9_sumOf, Cond.selects RX9 yX9_sumOf yX9_sumOf, Cond.code yX9_sumOf cX9_sumOf 5 (some .int), Cond.fieldLink RX9 7 "HallDeskModel" "people" "[I", Cond.methodLink RX9 111 yX9_has, Cond.static yX9_has, Cond.code yX9_has cX9_has 2 (some .boolean), Cond.methodLink RX9 115 yX9_nearest, Cond.instanceMethod yX9_nearest, Cond.selects RX9 yX9_nearest yX9_nearest]
def wsX9_findHeaps_r2 : List Cond := [Cond.code yX9_nearest cX9_nearest 5 (some .int), Cond.methodLink RX9 107 yX9_wayOf, Cond.instanceMethod yX9_wayOf, Cond.selects RX9 yX9_wayOf yX9_wayOf, Cond.code yX9_wayOf cX9_wayOf 3 (some .int), Cond.fieldLink RX9 25 "HallDeskModel" "width" "[I", Cond.fieldLink RX9 28 "HallDeskModel" "places" "[I", Cond.fieldLink RX9 31 "HallDeskModel" "ways" "[I", Cond.constant RX9 106 (1000000), Cond.methodLink RX9 132 yX9_pricesOf, Cond.instanceMethod yX9_pricesOf, Cond.selects RX9 yX9_pricesOf yX9_pricesOf, Cond.code yX9_pricesOf cX9_pricesOf 4 (some .int), Cond.fieldLink RX9 19 "HallDeskModel" "price" "[I"]
def wsX9_findHeaps : List Cond := .code yX9_findHeaps cX9_findHeaps 4 none :: ((wsX9_findHeaps_r1 ++ wsX9_findHeaps_r2) ++ wsX90)
def wsX9_fair_r1 : List Cond := [Cond.fieldLink RX9 58 "HallDeskModel" "thrown" "I", Cond.fieldLink RX9 71 "HallDeskModel" "halls" "I", Cond.fieldLink RX9 52 "HallDeskModel" "heap" "[I", Cond.methodLink RX9 178 yX9_findHeaps, Cond.instanceMethod yX9_findHeaps, Cond.selects RX9 yX9_findHeaps yX9_findHeaps, Cond.initialized RX9, Cond.code yX9_findHeaps cX9_findHeaps 4 none, Cond.constant RX9 121 (2000000000), Cond.methodLink RX9 118 yX9_allTowns, Cond.instanceMethod yX9_allTowns, Cond.selects RX9 yX9_allTowns yX9_allTowns, Cond.code yX9_allTowns cX9_allTowns 1 (some .int), Cond.fieldLink RX9 68 "HallDeskModel" "towns" "I", Cond.methodLink RX9 87 yX9_allHalls, Cond.instanceMethod yX9_allHalls, Cond.selects RX9 yX9_allHalls yX9_allHalls, Cond.code yX9_allHalls cX9_allHalls 1 (some .int), Cond.methodLink RX9 122 yX9_sumOf, Cond.instanceMethod yX9_sumOf, Cond.selects RX9 yX9_sumOf yX9_sumOf, Cond.code yX9_sumOf cX9_sumOf 5 (some .int), Cond.fieldLink RX9 7 "HallDeskModel" "people" "[I", Cond.methodLink RX9 111 yX9_has]
def wsX9_fair_r2 : List Cond := [Cond.static yX9_has, Cond.code yX9_has cX9_has 2 (some .boolean), Cond.methodLink RX9 115 yX9_nearest, Cond.instanceMethod yX9_nearest, Cond.selects RX9 yX9_nearest yX9_nearest, Cond.code yX9_nearest cX9_nearest 5 (some .int), Cond.methodLink RX9 107 yX9_wayOf, Cond.instanceMethod yX9_wayOf, Cond.selects RX9 yX9_wayOf yX9_wayOf, Cond.code yX9_wayOf cX9_wayOf 3 (some .int), Cond.fieldLink RX9 25 "HallDeskModel" "width" "[I", Cond.fieldLink RX9 28 "HallDeskModel" "places" "[I", Cond.fieldLink RX9 31 "HallDeskModel" "ways" "[I", Cond.constant RX9 106 (1000000), Cond.methodLink RX9 132 yX9_pricesOf, Cond.instanceMethod yX9_pricesOf, Cond.selects RX9 yX9_pricesOf yX9_pricesOf, Cond.code yX9_pricesOf cX9_pricesOf 4 (some .int), Cond.fieldLink RX9 19 "HallDeskModel" "price" "[I", Cond.methodLink RX9 175 yX9_together, Cond.instanceMethod yX9_together, Cond.selects RX9 yX9_together yX9_together, Cond.code yX9_together cX9_together 4 (some .int), Cond.fieldLink RX9 37 "HallDeskModel" "claims" "[I"]
def wsX9_fair : List Cond := .code yX9_fair cX9_fair 2 (some .int) :: ((wsX9_fair_r1 ++ wsX9_fair_r2) ++ wsX90)
def wsX9_orders : List Cond := .code yX9_orders cX9_orders 4 (some .long) :: ([])
def wsX9_share_r1 : List Cond := [Cond.fieldLink RX9 58 "HallDeskModel" "thrown" "I", Cond.constantLong RX9 181 (-3), Cond.fieldLink RX9 71 "HallDeskModel" "halls" "I", Cond.constantLong RX9 183 (-1), Cond.fieldLink RX9 68 "HallDeskModel" "towns" "I", Cond.fieldLink RX9 52 "HallDeskModel" "heap" "[I", Cond.methodLink RX9 98 yX9_isTown, Cond.instanceMethod yX9_isTown, Cond.selects RX9 yX9_isTown yX9_isTown, Cond.initialized RX9, Cond.code yX9_isTown cX9_isTown 2 (some .boolean), Cond.methodLink RX9 91 yX9_in, Cond.static yX9_in, Cond.code yX9_in cX9_in 3 (some .boolean), Cond.methodLink RX9 178 yX9_findHeaps, Cond.instanceMethod yX9_findHeaps, Cond.selects RX9 yX9_findHeaps yX9_findHeaps, Cond.code yX9_findHeaps cX9_findHeaps 4 none, Cond.constant RX9 121 (2000000000), Cond.methodLink RX9 118 yX9_allTowns, Cond.instanceMethod yX9_allTowns, Cond.selects RX9 yX9_allTowns yX9_allTowns, Cond.code yX9_allTowns cX9_allTowns 1 (some .int), Cond.methodLink RX9 87 yX9_allHalls]
def wsX9_share_r2 : List Cond := [Cond.instanceMethod yX9_allHalls, Cond.selects RX9 yX9_allHalls yX9_allHalls, Cond.code yX9_allHalls cX9_allHalls 1 (some .int), Cond.methodLink RX9 122 yX9_sumOf, Cond.instanceMethod yX9_sumOf, Cond.selects RX9 yX9_sumOf yX9_sumOf, Cond.code yX9_sumOf cX9_sumOf 5 (some .int), Cond.fieldLink RX9 7 "HallDeskModel" "people" "[I", Cond.methodLink RX9 111 yX9_has, Cond.static yX9_has, Cond.code yX9_has cX9_has 2 (some .boolean), Cond.methodLink RX9 115 yX9_nearest, Cond.instanceMethod yX9_nearest, Cond.selects RX9 yX9_nearest yX9_nearest, Cond.code yX9_nearest cX9_nearest 5 (some .int), Cond.methodLink RX9 107 yX9_wayOf, Cond.instanceMethod yX9_wayOf, Cond.selects RX9 yX9_wayOf yX9_wayOf, Cond.code yX9_wayOf cX9_wayOf 3 (some .int), Cond.fieldLink RX9 25 "HallDeskModel" "width" "[I", Cond.fieldLink RX9 28 "HallDeskModel" "places" "[I", Cond.fieldLink RX9 31 "HallDeskModel" "ways" "[I", Cond.constant RX9 106 (1000000), Cond.methodLink RX9 132 yX9_pricesOf]
def wsX9_share_r3 : List Cond := [Cond.instanceMethod yX9_pricesOf, Cond.selects RX9 yX9_pricesOf yX9_pricesOf, Cond.code yX9_pricesOf cX9_pricesOf 4 (some .int), Cond.fieldLink RX9 19 "HallDeskModel" "price" "[I", Cond.methodLink RX9 185 yX9_orders, Cond.static yX9_orders, Cond.code yX9_orders cX9_orders 4 (some .long), Cond.methodLink RX9 128 yX9_sizeOf, Cond.static yX9_sizeOf, Cond.code yX9_sizeOf cX9_sizeOf 3 (some .int)]
def wsX9_share : List Cond := .code yX9_share cX9_share 13 (some .long) :: ((wsX9_share_r1 ++ (wsX9_share_r2 ++ wsX9_share_r3)) ++ wsX90)
def wsX9_findSpots : List Cond := .code yX9_findSpots cX9_findSpots 4 none :: ([.fieldLink RX9 189 "HallDeskModel" "spots" "I", .fieldLink RX9 68 "HallDeskModel" "towns" "I", .fieldLink RX9 16 "HallDeskModel" "place" "[I", .fieldLink RX9 55 "HallDeskModel" "spot" "[I"] ++ wsX90)
def wsX9_lineCost : List Cond := .code yX9_lineCost cX9_lineCost 9 (some .int) :: ([.fieldLink RX9 68 "HallDeskModel" "towns" "I", .fieldLink RX9 189 "HallDeskModel" "spots" "I", .fieldLink RX9 16 "HallDeskModel" "place" "[I", .fieldLink RX9 55 "HallDeskModel" "spot" "[I", .fieldLink RX9 7 "HallDeskModel" "people" "[I", .methodLink RX9 111 yX9_has, .static yX9_has, .initialized RX9, .code yX9_has cX9_has 2 (some .boolean)] ++ wsX90)
def wsX9_isAhead : List Cond := .code yX9_isAhead cX9_isAhead 3 (some .boolean) :: ([])
def wsX9_findLine_r1 : List Cond := [Cond.fieldLink RX9 189 "HallDeskModel" "spots" "I", Cond.constant RX9 121 (2000000000), Cond.fieldLink RX9 195 "HallDeskModel" "choice" "I", Cond.methodLink RX9 192 yX9_findSpots, Cond.instanceMethod yX9_findSpots, Cond.selects RX9 yX9_findSpots yX9_findSpots, Cond.initialized RX9, Cond.code yX9_findSpots cX9_findSpots 4 none, Cond.fieldLink RX9 68 "HallDeskModel" "towns" "I", Cond.fieldLink RX9 16 "HallDeskModel" "place" "[I", Cond.fieldLink RX9 55 "HallDeskModel" "spot" "[I", Cond.methodLink RX9 128 yX9_sizeOf, Cond.static yX9_sizeOf, Cond.code yX9_sizeOf cX9_sizeOf 3 (some .int), Cond.methodLink RX9 198 yX9_lineCost, Cond.instanceMethod yX9_lineCost, Cond.selects RX9 yX9_lineCost yX9_lineCost, Cond.code yX9_lineCost cX9_lineCost 9 (some .int), Cond.fieldLink RX9 7 "HallDeskModel" "people" "[I", Cond.methodLink RX9 111 yX9_has, Cond.static yX9_has, Cond.code yX9_has cX9_has 2 (some .boolean), Cond.methodLink RX9 201 yX9_isAhead, Cond.static yX9_isAhead]
def wsX9_findLine_r2 : List Cond := [Cond.code yX9_isAhead cX9_isAhead 3 (some .boolean)]
def wsX9_findLine : List Cond := .code yX9_findLine cX9_findLine 7 (some .int) :: ((wsX9_findLine_r1 ++ wsX9_findLine_r2) ++ wsX90)
def wsX9_isLine : List Cond := .code yX9_isLine cX9_isLine 2 (some .boolean) :: ([.methodLink RX9 91 yX9_in, .static yX9_in, .initialized RX9, .code yX9_in cX9_in 3 (some .boolean)])
def wsX9_line_r1 : List Cond := [Cond.fieldLink RX9 58 "HallDeskModel" "thrown" "I", Cond.fieldLink RX9 68 "HallDeskModel" "towns" "I", Cond.methodLink RX9 204 yX9_isLine, Cond.static yX9_isLine, Cond.initialized RX9, Cond.code yX9_isLine cX9_isLine 2 (some .boolean), Cond.methodLink RX9 91 yX9_in, Cond.static yX9_in, Cond.code yX9_in cX9_in 3 (some .boolean), Cond.methodLink RX9 207 yX9_findLine, Cond.instanceMethod yX9_findLine, Cond.selects RX9 yX9_findLine yX9_findLine, Cond.code yX9_findLine cX9_findLine 7 (some .int), Cond.fieldLink RX9 189 "HallDeskModel" "spots" "I", Cond.constant RX9 121 (2000000000), Cond.fieldLink RX9 195 "HallDeskModel" "choice" "I", Cond.methodLink RX9 192 yX9_findSpots, Cond.instanceMethod yX9_findSpots, Cond.selects RX9 yX9_findSpots yX9_findSpots, Cond.code yX9_findSpots cX9_findSpots 4 none, Cond.fieldLink RX9 16 "HallDeskModel" "place" "[I", Cond.fieldLink RX9 55 "HallDeskModel" "spot" "[I", Cond.methodLink RX9 128 yX9_sizeOf, Cond.static yX9_sizeOf]
def wsX9_line_r2 : List Cond := [Cond.code yX9_sizeOf cX9_sizeOf 3 (some .int), Cond.methodLink RX9 198 yX9_lineCost, Cond.instanceMethod yX9_lineCost, Cond.selects RX9 yX9_lineCost yX9_lineCost, Cond.code yX9_lineCost cX9_lineCost 9 (some .int), Cond.fieldLink RX9 7 "HallDeskModel" "people" "[I", Cond.methodLink RX9 111 yX9_has, Cond.static yX9_has, Cond.code yX9_has cX9_has 2 (some .boolean), Cond.methodLink RX9 201 yX9_isAhead, Cond.static yX9_isAhead, Cond.code yX9_isAhead cX9_isAhead 3 (some .boolean)]
def wsX9_line : List Cond := .code yX9_line cX9_line 3 (some .int) :: ((wsX9_line_r1 ++ wsX9_line_r2) ++ wsX90)
def wsX9_lineAt_r1 : List Cond := [Cond.fieldLink RX9 58 "HallDeskModel" "thrown" "I", Cond.fieldLink RX9 68 "HallDeskModel" "towns" "I", Cond.fieldLink RX9 189 "HallDeskModel" "spots" "I", Cond.fieldLink RX9 195 "HallDeskModel" "choice" "I", Cond.fieldLink RX9 55 "HallDeskModel" "spot" "[I", Cond.methodLink RX9 204 yX9_isLine, Cond.static yX9_isLine, Cond.initialized RX9, Cond.code yX9_isLine cX9_isLine 2 (some .boolean), Cond.methodLink RX9 91 yX9_in, Cond.static yX9_in, Cond.code yX9_in cX9_in 3 (some .boolean), Cond.methodLink RX9 207 yX9_findLine, Cond.instanceMethod yX9_findLine, Cond.selects RX9 yX9_findLine yX9_findLine, Cond.code yX9_findLine cX9_findLine 7 (some .int), Cond.constant RX9 121 (2000000000), Cond.methodLink RX9 192 yX9_findSpots, Cond.instanceMethod yX9_findSpots, Cond.selects RX9 yX9_findSpots yX9_findSpots, Cond.code yX9_findSpots cX9_findSpots 4 none, Cond.fieldLink RX9 16 "HallDeskModel" "place" "[I", Cond.methodLink RX9 128 yX9_sizeOf, Cond.static yX9_sizeOf]
def wsX9_lineAt_r2 : List Cond := [Cond.code yX9_sizeOf cX9_sizeOf 3 (some .int), Cond.methodLink RX9 198 yX9_lineCost, Cond.instanceMethod yX9_lineCost, Cond.selects RX9 yX9_lineCost yX9_lineCost, Cond.code yX9_lineCost cX9_lineCost 9 (some .int), Cond.fieldLink RX9 7 "HallDeskModel" "people" "[I", Cond.methodLink RX9 111 yX9_has, Cond.static yX9_has, Cond.code yX9_has cX9_has 2 (some .boolean), Cond.methodLink RX9 201 yX9_isAhead, Cond.static yX9_isAhead, Cond.code yX9_isAhead cX9_isAhead 3 (some .boolean)]
def wsX9_lineAt : List Cond := .code yX9_lineAt cX9_lineAt 7 (some .int) :: ((wsX9_lineAt_r1 ++ wsX9_lineAt_r2) ++ wsX90)
def wsX9_count : List Cond := .code yX9_count cX9_count 4 (some .int) :: ([.fieldLink RX9 58 "HallDeskModel" "thrown" "I", .fieldLink RX9 68 "HallDeskModel" "towns" "I", .fieldLink RX9 71 "HallDeskModel" "halls" "I", .fieldLink RX9 7 "HallDeskModel" "people" "[I", .fieldLink RX9 25 "HallDeskModel" "width" "[I", .fieldLink RX9 84 "HallDeskModel" "hand" "I", .fieldLink RX9 78 "HallDeskModel" "kept" "I", .methodLink RX9 128 yX9_sizeOf, .static yX9_sizeOf, .initialized RX9, .code yX9_sizeOf cX9_sizeOf 3 (some .int), .methodLink RX9 118 yX9_allTowns, .instanceMethod yX9_allTowns, .selects RX9 yX9_allTowns yX9_allTowns, .code yX9_allTowns cX9_allTowns 1 (some .int), .methodLink RX9 175 yX9_together, .instanceMethod yX9_together, .selects RX9 yX9_together yX9_together, .code yX9_together cX9_together 4 (some .int), .fieldLink RX9 37 "HallDeskModel" "claims" "[I", .methodLink RX9 111 yX9_has, .static yX9_has, .code yX9_has cX9_has 2 (some .boolean)] ++ wsX90)
def wsJ9_abs_0f7a4 : List Cond := .code yJ9_abs_0f7a4 cJ9_abs_0f7a4 1 (some .int) :: ([])
def wsJ9_abs_067f4 : List Cond := .code yJ9_abs_067f4 cJ9_abs_067f4 2 (some .long) :: ([])
def wsJ9_max_7cf53 : List Cond := .code yJ9_max_7cf53 cJ9_max_7cf53 2 (some .int) :: ([])
def wsJ9_max_f86c9 : List Cond := .code yJ9_max_f86c9 cJ9_max_f86c9 4 (some .long) :: ([])
def wsJ9_min_7cf53 : List Cond := .code yJ9_min_7cf53 cJ9_min_7cf53 2 (some .int) :: ([])
def wsJ9_min_f86c9 : List Cond := .code yJ9_min_f86c9 cJ9_min_f86c9 4 (some .long) :: ([])
theorem dX0_init_0 : decode cX0_init 0 = .ok (.aload_n 0, 1) := by decide +kernel
theorem dX0_init_1 : decode cX0_init 1 = .ok (.invokespecial 3, 3) := by decide +kernel
theorem dX0_init_4 : decode cX0_init 4 = .ok (.aload_n 0, 1) := by decide +kernel
theorem dX0_init_5 : decode cX0_init 5 = .ok (.bipush 8, 2) := by decide +kernel
theorem dX0_init_7 : decode cX0_init 7 = .ok (.newarray .int, 2) := by decide +kernel
theorem dX0_init_9 : decode cX0_init 9 = .ok (.putfield 9, 3) := by decide +kernel
theorem dX0_init_12 : decode cX0_init 12 = .ok (.aload_n 0, 1) := by decide +kernel
theorem dX0_init_13 : decode cX0_init 13 = .ok (.bipush 7, 2) := by decide +kernel
theorem dX0_init_15 : decode cX0_init 15 = .ok (.newarray .int, 2) := by decide +kernel
theorem dX0_init_17 : decode cX0_init 17 = .ok (.putfield 15, 3) := by decide +kernel
theorem dX0_init_20 : decode cX0_init 20 = .ok (.aload_n 0, 1) := by decide +kernel
theorem dX0_init_21 : decode cX0_init 21 = .ok (.aload_n 1, 1) := by decide +kernel
theorem dX0_init_22 : decode cX0_init 22 = .ok (.putfield 18, 3) := by decide +kernel
theorem dX0_init_25 : decode cX0_init 25 = .ok (.return_, 1) := by decide +kernel
theorem dX0_dropLost_0 : decode cX0_dropLost 0 = .ok (.aload_n 0, 1) := by decide +kernel
theorem dX0_dropLost_1 : decode cX0_dropLost 1 = .ok (.getfield 18, 3) := by decide +kernel
theorem dX0_dropLost_4 : decode cX0_dropLost 4 = .ok (.getfield 22, 3) := by decide +kernel
theorem dX0_dropLost_7 : decode cX0_dropLost 7 = .ok (.istore_n 1, 1) := by decide +kernel
theorem dX0_dropLost_8 : decode cX0_dropLost 8 = .ok (.iload_n 1, 1) := by decide +kernel
theorem dX0_dropLost_9 : decode cX0_dropLost 9 = .ok (.bipush 8, 2) := by decide +kernel
theorem dX0_dropLost_11 : decode cX0_dropLost 11 = .ok (.if_icmp .ge 16, 3) := by decide +kernel
theorem dX0_dropLost_14 : decode cX0_dropLost 14 = .ok (.aload_n 0, 1) := by decide +kernel
theorem dX0_dropLost_15 : decode cX0_dropLost 15 = .ok (.getfield 9, 3) := by decide +kernel
theorem dX0_dropLost_18 : decode cX0_dropLost 18 = .ok (.iload_n 1, 1) := by decide +kernel
theorem dX0_dropLost_19 : decode cX0_dropLost 19 = .ok (.iconst 0, 1) := by decide +kernel
theorem dX0_dropLost_20 : decode cX0_dropLost 20 = .ok (.iastore, 1) := by decide +kernel
theorem dX0_dropLost_21 : decode cX0_dropLost 21 = .ok (.iinc 1 1, 3) := by decide +kernel
theorem dX0_dropLost_24 : decode cX0_dropLost 24 = .ok (.goto (-16), 3) := by decide +kernel
theorem dX0_dropLost_27 : decode cX0_dropLost 27 = .ok (.return_, 1) := by decide +kernel
set_option maxRecDepth 20000 in
theorem ggX0_together_X5_isIn : GoodIn wsX0_together wsX5_isIn := goodIn_r _ [7] (by decide +kernel) (by decide +kernel)
set_option maxRecDepth 20000 in
theorem gX0_together_X5_isIn : GoodIn wsX0_together (va_wsS RX0 28 yX5_isIn wsX5_isIn) := goodIn_app (goodIn_of _ (by decide +kernel)) ggX0_together_X5_isIn
theorem dX0_together_0 : decode cX0_together 0 = .ok (.iconst 0, 1) := by decide +kernel
theorem dX0_together_1 : decode cX0_together 1 = .ok (.istore_n 2, 1) := by decide +kernel
theorem dX0_together_2 : decode cX0_together 2 = .ok (.iconst 0, 1) := by decide +kernel
theorem dX0_together_3 : decode cX0_together 3 = .ok (.istore_n 3, 1) := by decide +kernel
theorem dX0_together_4 : decode cX0_together 4 = .ok (.iload_n 3, 1) := by decide +kernel
theorem dX0_together_5 : decode cX0_together 5 = .ok (.aload_n 0, 1) := by decide +kernel
theorem dX0_together_6 : decode cX0_together 6 = .ok (.getfield 18, 3) := by decide +kernel
theorem dX0_together_9 : decode cX0_together 9 = .ok (.getfield 22, 3) := by decide +kernel
theorem dX0_together_12 : decode cX0_together 12 = .ok (.if_icmp .ge 30, 3) := by decide +kernel
theorem dX0_together_15 : decode cX0_together 15 = .ok (.iload_n 2, 1) := by decide +kernel
theorem dX0_together_16 : decode cX0_together 16 = .ok (.iload_n 3, 1) := by decide +kernel
theorem dX0_together_17 : decode cX0_together 17 = .ok (.iload_n 1, 1) := by decide +kernel
theorem dX0_together_18 : decode cX0_together 18 = .ok (.invokestatic 28, 3) := by decide +kernel
theorem dX0_together_21 : decode cX0_together 21 = .ok (.ifCond .eq 12, 3) := by decide +kernel
theorem dX0_together_24 : decode cX0_together 24 = .ok (.aload_n 0, 1) := by decide +kernel
theorem dX0_together_25 : decode cX0_together 25 = .ok (.getfield 9, 3) := by decide +kernel
theorem dX0_together_28 : decode cX0_together 28 = .ok (.iload_n 3, 1) := by decide +kernel
theorem dX0_together_29 : decode cX0_together 29 = .ok (.iaload, 1) := by decide +kernel
theorem dX0_together_30 : decode cX0_together 30 = .ok (.goto 4, 3) := by decide +kernel
theorem dX0_together_33 : decode cX0_together 33 = .ok (.iconst 0, 1) := by decide +kernel
theorem dX0_together_34 : decode cX0_together 34 = .ok (.iadd, 1) := by decide +kernel
theorem dX0_together_35 : decode cX0_together 35 = .ok (.istore_n 2, 1) := by decide +kernel
theorem dX0_together_36 : decode cX0_together 36 = .ok (.iinc 3 1, 3) := by decide +kernel
theorem dX0_together_39 : decode cX0_together 39 = .ok (.goto (-35), 3) := by decide +kernel
theorem dX0_together_42 : decode cX0_together 42 = .ok (.iload_n 2, 1) := by decide +kernel
theorem dX0_together_43 : decode cX0_together 43 = .ok (.ireturn, 1) := by decide +kernel
set_option maxRecDepth 20000 in
theorem ggX0_firstBroken_X5_tripOf : GoodIn wsX0_firstBroken wsX5_tripOf := goodIn_r _ [14, 15, 16, 20, 21, 22, 23, 24, 25, 26, 27, 28, 29] (by decide +kernel) (by decide +kernel)
set_option maxRecDepth 20000 in
theorem gX0_firstBroken_X5_tripOf : GoodIn wsX0_firstBroken (wsV RX0 35 RX5 yX5_tripOf wsX5_tripOf) := goodIn_app (goodIn_of _ (by decide +kernel)) ggX0_firstBroken_X5_tripOf
theorem dX0_firstBroken_0 : decode cX0_firstBroken 0 = .ok (.iconst 0, 1) := by decide +kernel
theorem dX0_firstBroken_1 : decode cX0_firstBroken 1 = .ok (.istore_n 1, 1) := by decide +kernel
theorem dX0_firstBroken_2 : decode cX0_firstBroken 2 = .ok (.iload_n 1, 1) := by decide +kernel
theorem dX0_firstBroken_3 : decode cX0_firstBroken 3 = .ok (.aload_n 0, 1) := by decide +kernel
theorem dX0_firstBroken_4 : decode cX0_firstBroken 4 = .ok (.getfield 18, 3) := by decide +kernel
theorem dX0_firstBroken_7 : decode cX0_firstBroken 7 = .ok (.getfield 32, 3) := by decide +kernel
theorem dX0_firstBroken_10 : decode cX0_firstBroken 10 = .ok (.if_icmp .ge 68, 3) := by decide +kernel
theorem dX0_firstBroken_13 : decode cX0_firstBroken 13 = .ok (.iconst 0, 1) := by decide +kernel
theorem dX0_firstBroken_14 : decode cX0_firstBroken 14 = .ok (.istore_n 2, 1) := by decide +kernel
theorem dX0_firstBroken_15 : decode cX0_firstBroken 15 = .ok (.iconst 0, 1) := by decide +kernel
theorem dX0_firstBroken_16 : decode cX0_firstBroken 16 = .ok (.istore_n 3, 1) := by decide +kernel
theorem dX0_firstBroken_17 : decode cX0_firstBroken 17 = .ok (.iload_n 3, 1) := by decide +kernel
theorem dX0_firstBroken_18 : decode cX0_firstBroken 18 = .ok (.aload_n 0, 1) := by decide +kernel
theorem dX0_firstBroken_19 : decode cX0_firstBroken 19 = .ok (.getfield 18, 3) := by decide +kernel
theorem dX0_firstBroken_22 : decode cX0_firstBroken 22 = .ok (.getfield 22, 3) := by decide +kernel
theorem dX0_firstBroken_25 : decode cX0_firstBroken 25 = .ok (.if_icmp .ge 32, 3) := by decide +kernel
theorem dX0_firstBroken_28 : decode cX0_firstBroken 28 = .ok (.iload_n 2, 1) := by decide +kernel
theorem dX0_firstBroken_29 : decode cX0_firstBroken 29 = .ok (.iconst 0, 1) := by decide +kernel
theorem dX0_firstBroken_30 : decode cX0_firstBroken 30 = .ok (.aload_n 0, 1) := by decide +kernel
theorem dX0_firstBroken_31 : decode cX0_firstBroken 31 = .ok (.getfield 9, 3) := by decide +kernel
theorem dX0_firstBroken_34 : decode cX0_firstBroken 34 = .ok (.iload_n 3, 1) := by decide +kernel
theorem dX0_firstBroken_35 : decode cX0_firstBroken 35 = .ok (.iaload, 1) := by decide +kernel
theorem dX0_firstBroken_36 : decode cX0_firstBroken 36 = .ok (.aload_n 0, 1) := by decide +kernel
theorem dX0_firstBroken_37 : decode cX0_firstBroken 37 = .ok (.getfield 18, 3) := by decide +kernel
theorem dX0_firstBroken_40 : decode cX0_firstBroken 40 = .ok (.iload_n 1, 1) := by decide +kernel
theorem dX0_firstBroken_41 : decode cX0_firstBroken 41 = .ok (.iload_n 3, 1) := by decide +kernel
theorem dX0_firstBroken_42 : decode cX0_firstBroken 42 = .ok (.invokevirtual 35, 3) := by decide +kernel
theorem dX0_firstBroken_45 : decode cX0_firstBroken 45 = .ok (.isub, 1) := by decide +kernel
theorem dX0_firstBroken_46 : decode cX0_firstBroken 46 = .ok (.invokestatic 39, 3) := by decide +kernel
theorem dX0_firstBroken_49 : decode cX0_firstBroken 49 = .ok (.iadd, 1) := by decide +kernel
theorem dX0_firstBroken_50 : decode cX0_firstBroken 50 = .ok (.istore_n 2, 1) := by decide +kernel
theorem dX0_firstBroken_51 : decode cX0_firstBroken 51 = .ok (.iinc 3 1, 3) := by decide +kernel
theorem dX0_firstBroken_54 : decode cX0_firstBroken 54 = .ok (.goto (-37), 3) := by decide +kernel
theorem dX0_firstBroken_57 : decode cX0_firstBroken 57 = .ok (.iload_n 2, 1) := by decide +kernel
theorem dX0_firstBroken_58 : decode cX0_firstBroken 58 = .ok (.aload_n 0, 1) := by decide +kernel
theorem dX0_firstBroken_59 : decode cX0_firstBroken 59 = .ok (.getfield 18, 3) := by decide +kernel
theorem dX0_firstBroken_62 : decode cX0_firstBroken 62 = .ok (.getfield 44, 3) := by decide +kernel
theorem dX0_firstBroken_65 : decode cX0_firstBroken 65 = .ok (.iload_n 1, 1) := by decide +kernel
theorem dX0_firstBroken_66 : decode cX0_firstBroken 66 = .ok (.iaload, 1) := by decide +kernel
theorem dX0_firstBroken_67 : decode cX0_firstBroken 67 = .ok (.if_icmp .le 5, 3) := by decide +kernel
theorem dX0_firstBroken_70 : decode cX0_firstBroken 70 = .ok (.iload_n 1, 1) := by decide +kernel
theorem dX0_firstBroken_71 : decode cX0_firstBroken 71 = .ok (.ireturn, 1) := by decide +kernel
theorem dX0_firstBroken_72 : decode cX0_firstBroken 72 = .ok (.iinc 1 1, 3) := by decide +kernel
theorem dX0_firstBroken_75 : decode cX0_firstBroken 75 = .ok (.goto (-73), 3) := by decide +kernel
theorem dX0_firstBroken_78 : decode cX0_firstBroken 78 = .ok (.iconst (-1), 1) := by decide +kernel
theorem dX0_firstBroken_79 : decode cX0_firstBroken 79 = .ok (.ireturn, 1) := by decide +kernel
set_option maxRecDepth 20000 in
theorem ggX0_raiseAll_J7_fill_53178 : GoodIn wsX0_raiseAll wsJ7_fill_53178 := goodIn_r _ [13] (by decide +kernel) (by decide +kernel)
set_option maxRecDepth 20000 in
theorem gX0_raiseAll_J7_fill_53178 : GoodIn wsX0_raiseAll (va_wsS RX0 47 yJ7_fill_53178 wsJ7_fill_53178) := goodIn_app (goodIn_of _ (by decide +kernel)) ggX0_raiseAll_J7_fill_53178
set_option maxRecDepth 20000 in
theorem ggX0_raiseAll_X0_freeTowns : GoodIn wsX0_raiseAll wsX0_freeTowns := goodIn_r _ [18, 2, 19, 20, 21, 22, 17, 23, 5, 4, 24, 25, 26, 27, 1, 28, 29, 30, 31, 32, 33, 34, 65, 66, 67, 68, 69, 70, 71, 72, 73, 74, 75, 76, 77] (by decide +kernel) (by decide +kernel)
set_option maxRecDepth 20000 in
theorem gX0_raiseAll_X0_freeTowns : GoodIn wsX0_raiseAll (wsV RX0 59 RX0 yX0_freeTowns wsX0_freeTowns) := goodIn_app (goodIn_of _ (by decide +kernel)) ggX0_raiseAll_X0_freeTowns
set_option maxRecDepth 20000 in
theorem ggX0_raiseAll_X0_raiseSome : GoodIn wsX0_raiseAll wsX0_raiseSome := goodIn_r _ [38, 2, 19, 39, 40, 41, 42, 43, 44, 45, 17, 46, 47, 48, 49, 5, 4, 50, 51, 31, 52, 53, 54, 55, 56, 1, 24, 25, 26, 27, 28, 29, 30, 32, 33, 34, 57, 58, 59, 60, 20, 21, 22, 23, 61, 62, 63, 64, 65, 66, 67, 68, 69, 70, 71, 72, 73, 74, 75, 76, 77] (by decide +kernel) (by decide +kernel)
set_option maxRecDepth 20000 in
theorem gX0_raiseAll_X0_raiseSome : GoodIn wsX0_raiseAll (wsV RX0 63 RX0 yX0_raiseSome wsX0_raiseSome) := goodIn_app (goodIn_of _ (by decide +kernel)) ggX0_raiseAll_X0_raiseSome
theorem dX0_raiseAll_0 : decode cX0_raiseAll 0 = .ok (.aload_n 0, 1) := by decide +kernel
theorem dX0_raiseAll_1 : decode cX0_raiseAll 1 = .ok (.getfield 9, 3) := by decide +kernel
theorem dX0_raiseAll_4 : decode cX0_raiseAll 4 = .ok (.iconst 0, 1) := by decide +kernel
theorem dX0_raiseAll_5 : decode cX0_raiseAll 5 = .ok (.invokestatic 47, 3) := by decide +kernel
theorem dX0_raiseAll_8 : decode cX0_raiseAll 8 = .ok (.aload_n 0, 1) := by decide +kernel
theorem dX0_raiseAll_9 : decode cX0_raiseAll 9 = .ok (.getfield 18, 3) := by decide +kernel
theorem dX0_raiseAll_12 : decode cX0_raiseAll 12 = .ok (.getfield 44, 3) := by decide +kernel
theorem dX0_raiseAll_15 : decode cX0_raiseAll 15 = .ok (.iconst 0, 1) := by decide +kernel
theorem dX0_raiseAll_16 : decode cX0_raiseAll 16 = .ok (.aload_n 0, 1) := by decide +kernel
theorem dX0_raiseAll_17 : decode cX0_raiseAll 17 = .ok (.getfield 15, 3) := by decide +kernel
theorem dX0_raiseAll_20 : decode cX0_raiseAll 20 = .ok (.iconst 0, 1) := by decide +kernel
theorem dX0_raiseAll_21 : decode cX0_raiseAll 21 = .ok (.aload_n 0, 1) := by decide +kernel
theorem dX0_raiseAll_22 : decode cX0_raiseAll 22 = .ok (.getfield 18, 3) := by decide +kernel
theorem dX0_raiseAll_25 : decode cX0_raiseAll 25 = .ok (.getfield 32, 3) := by decide +kernel
theorem dX0_raiseAll_28 : decode cX0_raiseAll 28 = .ok (.invokestatic 53, 3) := by decide +kernel
theorem dX0_raiseAll_31 : decode cX0_raiseAll 31 = .ok (.sipush 2000, 3) := by decide +kernel
theorem dX0_raiseAll_34 : decode cX0_raiseAll 34 = .ok (.istore_n 1, 1) := by decide +kernel
theorem dX0_raiseAll_35 : decode cX0_raiseAll 35 = .ok (.aload_n 0, 1) := by decide +kernel
theorem dX0_raiseAll_36 : decode cX0_raiseAll 36 = .ok (.invokevirtual 59, 3) := by decide +kernel
theorem dX0_raiseAll_39 : decode cX0_raiseAll 39 = .ok (.istore_n 2, 1) := by decide +kernel
theorem dX0_raiseAll_40 : decode cX0_raiseAll 40 = .ok (.iconst 0, 1) := by decide +kernel
theorem dX0_raiseAll_41 : decode cX0_raiseAll 41 = .ok (.istore_n 3, 1) := by decide +kernel
theorem dX0_raiseAll_42 : decode cX0_raiseAll 42 = .ok (.iload_n 3, 1) := by decide +kernel
theorem dX0_raiseAll_43 : decode cX0_raiseAll 43 = .ok (.sipush 2000, 3) := by decide +kernel
theorem dX0_raiseAll_46 : decode cX0_raiseAll 46 = .ok (.if_icmp .ge 31, 3) := by decide +kernel
theorem dX0_raiseAll_49 : decode cX0_raiseAll 49 = .ok (.iload_n 1, 1) := by decide +kernel
theorem dX0_raiseAll_50 : decode cX0_raiseAll 50 = .ok (.ifCond .le 27, 3) := by decide +kernel
theorem dX0_raiseAll_53 : decode cX0_raiseAll 53 = .ok (.iload_n 2, 1) := by decide +kernel
theorem dX0_raiseAll_54 : decode cX0_raiseAll 54 = .ok (.ifCond .eq 23, 3) := by decide +kernel
theorem dX0_raiseAll_57 : decode cX0_raiseAll 57 = .ok (.iload_n 1, 1) := by decide +kernel
theorem dX0_raiseAll_58 : decode cX0_raiseAll 58 = .ok (.aload_n 0, 1) := by decide +kernel
theorem dX0_raiseAll_59 : decode cX0_raiseAll 59 = .ok (.iload_n 2, 1) := by decide +kernel
theorem dX0_raiseAll_60 : decode cX0_raiseAll 60 = .ok (.iload_n 1, 1) := by decide +kernel
theorem dX0_raiseAll_61 : decode cX0_raiseAll 61 = .ok (.invokevirtual 63, 3) := by decide +kernel
theorem dX0_raiseAll_64 : decode cX0_raiseAll 64 = .ok (.isub, 1) := by decide +kernel
theorem dX0_raiseAll_65 : decode cX0_raiseAll 65 = .ok (.istore_n 1, 1) := by decide +kernel
theorem dX0_raiseAll_66 : decode cX0_raiseAll 66 = .ok (.aload_n 0, 1) := by decide +kernel
theorem dX0_raiseAll_67 : decode cX0_raiseAll 67 = .ok (.invokevirtual 59, 3) := by decide +kernel
theorem dX0_raiseAll_70 : decode cX0_raiseAll 70 = .ok (.istore_n 2, 1) := by decide +kernel
theorem dX0_raiseAll_71 : decode cX0_raiseAll 71 = .ok (.iinc 3 1, 3) := by decide +kernel
theorem dX0_raiseAll_74 : decode cX0_raiseAll 74 = .ok (.goto (-32), 3) := by decide +kernel
theorem dX0_raiseAll_77 : decode cX0_raiseAll 77 = .ok (.return_, 1) := by decide +kernel
set_option maxRecDepth 20000 in
theorem ggX0_freeTowns_X0_isStopped : GoodIn wsX0_freeTowns wsX0_isStopped := goodIn_r _ [7, 1, 8, 9, 10, 11, 12, 6, 13, 14, 15, 16, 17, 18, 19, 20, 21, 22, 23, 24, 25, 26, 27, 28, 29, 30, 31, 32, 33, 34] (by decide +kernel) (by decide +kernel)
set_option maxRecDepth 20000 in
theorem gX0_freeTowns_X0_isStopped : GoodIn wsX0_freeTowns (wsV RX0 66 RX0 yX0_isStopped wsX0_isStopped) := goodIn_app (goodIn_of _ (by decide +kernel)) ggX0_freeTowns_X0_isStopped
theorem dX0_freeTowns_0 : decode cX0_freeTowns 0 = .ok (.iconst 0, 1) := by decide +kernel
theorem dX0_freeTowns_1 : decode cX0_freeTowns 1 = .ok (.istore_n 1, 1) := by decide +kernel
theorem dX0_freeTowns_2 : decode cX0_freeTowns 2 = .ok (.iconst 0, 1) := by decide +kernel
theorem dX0_freeTowns_3 : decode cX0_freeTowns 3 = .ok (.istore_n 2, 1) := by decide +kernel
theorem dX0_freeTowns_4 : decode cX0_freeTowns 4 = .ok (.iload_n 2, 1) := by decide +kernel
theorem dX0_freeTowns_5 : decode cX0_freeTowns 5 = .ok (.aload_n 0, 1) := by decide +kernel
theorem dX0_freeTowns_6 : decode cX0_freeTowns 6 = .ok (.getfield 18, 3) := by decide +kernel
theorem dX0_freeTowns_9 : decode cX0_freeTowns 9 = .ok (.getfield 22, 3) := by decide +kernel
theorem dX0_freeTowns_12 : decode cX0_freeTowns 12 = .ok (.if_icmp .ge 27, 3) := by decide +kernel
theorem dX0_freeTowns_15 : decode cX0_freeTowns 15 = .ok (.iload_n 1, 1) := by decide +kernel
theorem dX0_freeTowns_16 : decode cX0_freeTowns 16 = .ok (.aload_n 0, 1) := by decide +kernel
theorem dX0_freeTowns_17 : decode cX0_freeTowns 17 = .ok (.iload_n 2, 1) := by decide +kernel
theorem dX0_freeTowns_18 : decode cX0_freeTowns 18 = .ok (.invokevirtual 66, 3) := by decide +kernel
theorem dX0_freeTowns_21 : decode cX0_freeTowns 21 = .ok (.ifCond .eq 7, 3) := by decide +kernel
theorem dX0_freeTowns_24 : decode cX0_freeTowns 24 = .ok (.iconst 0, 1) := by decide +kernel
theorem dX0_freeTowns_25 : decode cX0_freeTowns 25 = .ok (.goto 6, 3) := by decide +kernel
theorem dX0_freeTowns_28 : decode cX0_freeTowns 28 = .ok (.iconst 1, 1) := by decide +kernel
theorem dX0_freeTowns_29 : decode cX0_freeTowns 29 = .ok (.iload_n 2, 1) := by decide +kernel
theorem dX0_freeTowns_30 : decode cX0_freeTowns 30 = .ok (.ishl, 1) := by decide +kernel
theorem dX0_freeTowns_31 : decode cX0_freeTowns 31 = .ok (.ior, 1) := by decide +kernel
theorem dX0_freeTowns_32 : decode cX0_freeTowns 32 = .ok (.istore_n 1, 1) := by decide +kernel
theorem dX0_freeTowns_33 : decode cX0_freeTowns 33 = .ok (.iinc 2 1, 3) := by decide +kernel
theorem dX0_freeTowns_36 : decode cX0_freeTowns 36 = .ok (.goto (-32), 3) := by decide +kernel
theorem dX0_freeTowns_39 : decode cX0_freeTowns 39 = .ok (.iload_n 1, 1) := by decide +kernel
theorem dX0_freeTowns_40 : decode cX0_freeTowns 40 = .ok (.ireturn, 1) := by decide +kernel
set_option maxRecDepth 20000 in
theorem ggX0_isStopped_X0_pays : GoodIn wsX0_isStopped wsX0_pays := goodIn_r _ [8, 9, 1, 10, 11, 12, 13, 14, 15, 16, 17, 18, 19, 20, 21, 22, 23, 24, 25, 26, 27, 28, 29] (by decide +kernel) (by decide +kernel)
set_option maxRecDepth 20000 in
theorem gX0_isStopped_X0_pays : GoodIn wsX0_isStopped (wsV RX0 70 RX0 yX0_pays wsX0_pays) := goodIn_app (goodIn_of _ (by decide +kernel)) ggX0_isStopped_X0_pays
theorem dX0_isStopped_0 : decode cX0_isStopped 0 = .ok (.iconst 0, 1) := by decide +kernel
theorem dX0_isStopped_1 : decode cX0_isStopped 1 = .ok (.istore_n 2, 1) := by decide +kernel
theorem dX0_isStopped_2 : decode cX0_isStopped 2 = .ok (.iload_n 2, 1) := by decide +kernel
theorem dX0_isStopped_3 : decode cX0_isStopped 3 = .ok (.aload_n 0, 1) := by decide +kernel
theorem dX0_isStopped_4 : decode cX0_isStopped 4 = .ok (.getfield 18, 3) := by decide +kernel
theorem dX0_isStopped_7 : decode cX0_isStopped 7 = .ok (.getfield 32, 3) := by decide +kernel
theorem dX0_isStopped_10 : decode cX0_isStopped 10 = .ok (.if_icmp .ge 29, 3) := by decide +kernel
theorem dX0_isStopped_13 : decode cX0_isStopped 13 = .ok (.aload_n 0, 1) := by decide +kernel
theorem dX0_isStopped_14 : decode cX0_isStopped 14 = .ok (.getfield 15, 3) := by decide +kernel
theorem dX0_isStopped_17 : decode cX0_isStopped 17 = .ok (.iload_n 2, 1) := by decide +kernel
theorem dX0_isStopped_18 : decode cX0_isStopped 18 = .ok (.iaload, 1) := by decide +kernel
theorem dX0_isStopped_19 : decode cX0_isStopped 19 = .ok (.ifCond .ne 14, 3) := by decide +kernel
theorem dX0_isStopped_22 : decode cX0_isStopped 22 = .ok (.aload_n 0, 1) := by decide +kernel
theorem dX0_isStopped_23 : decode cX0_isStopped 23 = .ok (.iload_n 1, 1) := by decide +kernel
theorem dX0_isStopped_24 : decode cX0_isStopped 24 = .ok (.iload_n 2, 1) := by decide +kernel
theorem dX0_isStopped_25 : decode cX0_isStopped 25 = .ok (.invokevirtual 70, 3) := by decide +kernel
theorem dX0_isStopped_28 : decode cX0_isStopped 28 = .ok (.ifCond .eq 5, 3) := by decide +kernel
theorem dX0_isStopped_31 : decode cX0_isStopped 31 = .ok (.iconst 1, 1) := by decide +kernel
theorem dX0_isStopped_32 : decode cX0_isStopped 32 = .ok (.ireturn, 1) := by decide +kernel
theorem dX0_isStopped_33 : decode cX0_isStopped 33 = .ok (.iinc 2 1, 3) := by decide +kernel
theorem dX0_isStopped_36 : decode cX0_isStopped 36 = .ok (.goto (-34), 3) := by decide +kernel
theorem dX0_isStopped_39 : decode cX0_isStopped 39 = .ok (.iconst 0, 1) := by decide +kernel
theorem dX0_isStopped_40 : decode cX0_isStopped 40 = .ok (.ireturn, 1) := by decide +kernel
set_option maxRecDepth 20000 in
theorem ggX0_pays_X5_tripOf : GoodIn wsX0_pays wsX5_tripOf := goodIn_r _ [7, 8, 9, 13, 14, 15, 16, 17, 18, 19, 20, 21, 22] (by decide +kernel) (by decide +kernel)
set_option maxRecDepth 20000 in
theorem gX0_pays_X5_tripOf : GoodIn wsX0_pays (wsV RX0 35 RX5 yX5_tripOf wsX5_tripOf) := goodIn_app (goodIn_of _ (by decide +kernel)) ggX0_pays_X5_tripOf
theorem dX0_pays_0 : decode cX0_pays 0 = .ok (.aload_n 0, 1) := by decide +kernel
theorem dX0_pays_1 : decode cX0_pays 1 = .ok (.getfield 9, 3) := by decide +kernel
theorem dX0_pays_4 : decode cX0_pays 4 = .ok (.iload_n 1, 1) := by decide +kernel
theorem dX0_pays_5 : decode cX0_pays 5 = .ok (.iaload, 1) := by decide +kernel
theorem dX0_pays_6 : decode cX0_pays 6 = .ok (.aload_n 0, 1) := by decide +kernel
theorem dX0_pays_7 : decode cX0_pays 7 = .ok (.getfield 18, 3) := by decide +kernel
theorem dX0_pays_10 : decode cX0_pays 10 = .ok (.iload_n 2, 1) := by decide +kernel
theorem dX0_pays_11 : decode cX0_pays 11 = .ok (.iload_n 1, 1) := by decide +kernel
theorem dX0_pays_12 : decode cX0_pays 12 = .ok (.invokevirtual 35, 3) := by decide +kernel
theorem dX0_pays_15 : decode cX0_pays 15 = .ok (.if_icmp .lt 7, 3) := by decide +kernel
theorem dX0_pays_18 : decode cX0_pays 18 = .ok (.iconst 1, 1) := by decide +kernel
theorem dX0_pays_19 : decode cX0_pays 19 = .ok (.goto 4, 3) := by decide +kernel
theorem dX0_pays_22 : decode cX0_pays 22 = .ok (.iconst 0, 1) := by decide +kernel
theorem dX0_pays_23 : decode cX0_pays 23 = .ok (.ireturn, 1) := by decide +kernel
set_option maxRecDepth 20000 in
theorem ggX0_raiseSome_X0_alikeRounds : GoodIn wsX0_raiseSome wsX0_alikeRounds := goodIn_r _ [11, 1, 2, 12, 13, 5, 14, 15, 16, 17, 18, 19, 20, 21, 22, 23, 10, 24, 25, 26, 27, 28, 29, 30, 31, 32, 33, 34, 35, 36, 37, 38, 39, 48, 49, 50, 51, 52, 53, 54, 55, 56, 57, 58, 59, 60] (by decide +kernel) (by decide +kernel)
set_option maxRecDepth 20000 in
theorem gX0_raiseSome_X0_alikeRounds : GoodIn wsX0_raiseSome (wsV RX0 73 RX0 yX0_alikeRounds wsX0_alikeRounds) := goodIn_app (goodIn_of _ (by decide +kernel)) ggX0_raiseSome_X0_alikeRounds
set_option maxRecDepth 20000 in
theorem ggX0_raiseSome_X5_isIn : GoodIn wsX0_raiseSome wsX5_isIn := goodIn_r _ [20] (by decide +kernel) (by decide +kernel)
set_option maxRecDepth 20000 in
theorem gX0_raiseSome_X5_isIn : GoodIn wsX0_raiseSome (va_wsS RX0 28 yX5_isIn wsX5_isIn) := goodIn_app (goodIn_of _ (by decide +kernel)) ggX0_raiseSome_X5_isIn
set_option maxRecDepth 20000 in
theorem ggX0_raiseSome_X0_isStopped : GoodIn wsX0_raiseSome wsX0_isStopped := goodIn_r _ [43, 1, 15, 16, 26, 27, 28, 10, 29, 25, 30, 31, 32, 19, 33, 34, 35, 48, 49, 50, 51, 52, 53, 54, 55, 56, 57, 58, 59, 60] (by decide +kernel) (by decide +kernel)
set_option maxRecDepth 20000 in
theorem gX0_raiseSome_X0_isStopped : GoodIn wsX0_raiseSome (wsV RX0 66 RX0 yX0_isStopped wsX0_isStopped) := goodIn_app (goodIn_of _ (by decide +kernel)) ggX0_raiseSome_X0_isStopped
set_option maxRecDepth 20000 in
theorem ggX0_raiseSome_X0_raiseBy : GoodIn wsX0_raiseSome wsX0_raiseBy := goodIn_r _ [47, 1, 15, 16, 25, 26, 27, 28, 10, 29, 30, 31, 32, 19, 33, 34, 35, 48, 49, 50, 51, 52, 53, 54, 55, 56, 57, 58, 59, 60] (by decide +kernel) (by decide +kernel)
set_option maxRecDepth 20000 in
theorem gX0_raiseSome_X0_raiseBy : GoodIn wsX0_raiseSome (wsV RX0 76 RX0 yX0_raiseBy wsX0_raiseBy) := goodIn_app (goodIn_of _ (by decide +kernel)) ggX0_raiseSome_X0_raiseBy
theorem dX0_raiseSome_0 : decode cX0_raiseSome 0 = .ok (.aload_n 0, 1) := by decide +kernel
theorem dX0_raiseSome_1 : decode cX0_raiseSome 1 = .ok (.iload_n 1, 1) := by decide +kernel
theorem dX0_raiseSome_2 : decode cX0_raiseSome 2 = .ok (.iload_n 2, 1) := by decide +kernel
theorem dX0_raiseSome_3 : decode cX0_raiseSome 3 = .ok (.invokevirtual 73, 3) := by decide +kernel
theorem dX0_raiseSome_6 : decode cX0_raiseSome 6 = .ok (.istore_n 3, 1) := by decide +kernel
theorem dX0_raiseSome_7 : decode cX0_raiseSome 7 = .ok (.iconst 0, 1) := by decide +kernel
theorem dX0_raiseSome_8 : decode cX0_raiseSome 8 = .ok (.istore 4, 2) := by decide +kernel
theorem dX0_raiseSome_10 : decode cX0_raiseSome 10 = .ok (.iload 4, 2) := by decide +kernel
theorem dX0_raiseSome_12 : decode cX0_raiseSome 12 = .ok (.aload_n 0, 1) := by decide +kernel
theorem dX0_raiseSome_13 : decode cX0_raiseSome 13 = .ok (.getfield 18, 3) := by decide +kernel
theorem dX0_raiseSome_16 : decode cX0_raiseSome 16 = .ok (.getfield 22, 3) := by decide +kernel
theorem dX0_raiseSome_19 : decode cX0_raiseSome 19 = .ok (.if_icmp .ge 42, 3) := by decide +kernel
theorem dX0_raiseSome_22 : decode cX0_raiseSome 22 = .ok (.iload 4, 2) := by decide +kernel
theorem dX0_raiseSome_24 : decode cX0_raiseSome 24 = .ok (.iload_n 1, 1) := by decide +kernel
theorem dX0_raiseSome_25 : decode cX0_raiseSome 25 = .ok (.invokestatic 28, 3) := by decide +kernel
theorem dX0_raiseSome_28 : decode cX0_raiseSome 28 = .ok (.ifCond .eq 27, 3) := by decide +kernel
theorem dX0_raiseSome_31 : decode cX0_raiseSome 31 = .ok (.iload_n 3, 1) := by decide +kernel
theorem dX0_raiseSome_32 : decode cX0_raiseSome 32 = .ok (.ifCond .gt 12, 3) := by decide +kernel
theorem dX0_raiseSome_35 : decode cX0_raiseSome 35 = .ok (.aload_n 0, 1) := by decide +kernel
theorem dX0_raiseSome_36 : decode cX0_raiseSome 36 = .ok (.iload 4, 2) := by decide +kernel
theorem dX0_raiseSome_38 : decode cX0_raiseSome 38 = .ok (.invokevirtual 66, 3) := by decide +kernel
theorem dX0_raiseSome_41 : decode cX0_raiseSome 41 = .ok (.ifCond .ne 14, 3) := by decide +kernel
theorem dX0_raiseSome_44 : decode cX0_raiseSome 44 = .ok (.aload_n 0, 1) := by decide +kernel
theorem dX0_raiseSome_45 : decode cX0_raiseSome 45 = .ok (.iload 4, 2) := by decide +kernel
theorem dX0_raiseSome_47 : decode cX0_raiseSome 47 = .ok (.iconst 1, 1) := by decide +kernel
theorem dX0_raiseSome_48 : decode cX0_raiseSome 48 = .ok (.iload_n 3, 1) := by decide +kernel
theorem dX0_raiseSome_49 : decode cX0_raiseSome 49 = .ok (.invokestatic 39, 3) := by decide +kernel
theorem dX0_raiseSome_52 : decode cX0_raiseSome 52 = .ok (.invokevirtual 76, 3) := by decide +kernel
theorem dX0_raiseSome_55 : decode cX0_raiseSome 55 = .ok (.iinc 4 1, 3) := by decide +kernel
theorem dX0_raiseSome_58 : decode cX0_raiseSome 58 = .ok (.goto (-48), 3) := by decide +kernel
theorem dX0_raiseSome_61 : decode cX0_raiseSome 61 = .ok (.iconst 1, 1) := by decide +kernel
theorem dX0_raiseSome_62 : decode cX0_raiseSome 62 = .ok (.iload_n 3, 1) := by decide +kernel
theorem dX0_raiseSome_63 : decode cX0_raiseSome 63 = .ok (.invokestatic 39, 3) := by decide +kernel
theorem dX0_raiseSome_66 : decode cX0_raiseSome 66 = .ok (.ireturn, 1) := by decide +kernel
set_option maxRecDepth 20000 in
theorem ggX0_alikeRounds_X5_isIn : GoodIn wsX0_alikeRounds wsX5_isIn := goodIn_r _ [12] (by decide +kernel) (by decide +kernel)
set_option maxRecDepth 20000 in
theorem gX0_alikeRounds_X5_isIn : GoodIn wsX0_alikeRounds (va_wsS RX0 28 yX5_isIn wsX5_isIn) := goodIn_app (goodIn_of _ (by decide +kernel)) ggX0_alikeRounds_X5_isIn
set_option maxRecDepth 20000 in
theorem ggX0_alikeRounds_X0_roundsTillPaying : GoodIn wsX0_alikeRounds wsX0_roundsTillPaying := goodIn_r _ [17, 1, 7, 18, 3, 4, 5, 6, 19, 20, 21, 16, 22, 23, 24, 25, 11, 26, 27, 28, 33, 34, 35, 36, 37, 38, 39, 40, 41, 42, 43, 44, 45] (by decide +kernel) (by decide +kernel)
set_option maxRecDepth 20000 in
theorem gX0_alikeRounds_X0_roundsTillPaying : GoodIn wsX0_alikeRounds (wsV RX0 80 RX0 yX0_roundsTillPaying wsX0_roundsTillPaying) := goodIn_app (goodIn_of _ (by decide +kernel)) ggX0_alikeRounds_X0_roundsTillPaying
set_option maxRecDepth 20000 in
theorem ggX0_alikeRounds_X0_payersOf : GoodIn wsX0_alikeRounds wsX0_payersOf := goodIn_r _ [32, 1, 2, 9, 10, 11, 12, 19, 20, 21, 16, 22, 18, 23, 24, 25, 26, 27, 28, 33, 34, 35, 36, 37, 38, 39, 40, 41, 42, 43, 44, 45] (by decide +kernel) (by decide +kernel)
set_option maxRecDepth 20000 in
theorem gX0_alikeRounds_X0_payersOf : GoodIn wsX0_alikeRounds (wsV RX0 86 RX0 yX0_payersOf wsX0_payersOf) := goodIn_app (goodIn_of _ (by decide +kernel)) ggX0_alikeRounds_X0_payersOf
theorem dX0_alikeRounds_0 : decode cX0_alikeRounds 0 = .ok (.iload_n 2, 1) := by decide +kernel
theorem dX0_alikeRounds_1 : decode cX0_alikeRounds 1 = .ok (.istore_n 3, 1) := by decide +kernel
theorem dX0_alikeRounds_2 : decode cX0_alikeRounds 2 = .ok (.iconst 0, 1) := by decide +kernel
theorem dX0_alikeRounds_3 : decode cX0_alikeRounds 3 = .ok (.istore 4, 2) := by decide +kernel
theorem dX0_alikeRounds_5 : decode cX0_alikeRounds 5 = .ok (.iload 4, 2) := by decide +kernel
theorem dX0_alikeRounds_7 : decode cX0_alikeRounds 7 = .ok (.aload_n 0, 1) := by decide +kernel
theorem dX0_alikeRounds_8 : decode cX0_alikeRounds 8 = .ok (.getfield 18, 3) := by decide +kernel
theorem dX0_alikeRounds_11 : decode cX0_alikeRounds 11 = .ok (.getfield 22, 3) := by decide +kernel
theorem dX0_alikeRounds_14 : decode cX0_alikeRounds 14 = .ok (.if_icmp .ge 30, 3) := by decide +kernel
theorem dX0_alikeRounds_17 : decode cX0_alikeRounds 17 = .ok (.iload 4, 2) := by decide +kernel
theorem dX0_alikeRounds_19 : decode cX0_alikeRounds 19 = .ok (.iload_n 1, 1) := by decide +kernel
theorem dX0_alikeRounds_20 : decode cX0_alikeRounds 20 = .ok (.invokestatic 28, 3) := by decide +kernel
theorem dX0_alikeRounds_23 : decode cX0_alikeRounds 23 = .ok (.ifCond .eq 15, 3) := by decide +kernel
theorem dX0_alikeRounds_26 : decode cX0_alikeRounds 26 = .ok (.iload_n 3, 1) := by decide +kernel
theorem dX0_alikeRounds_27 : decode cX0_alikeRounds 27 = .ok (.aload_n 0, 1) := by decide +kernel
theorem dX0_alikeRounds_28 : decode cX0_alikeRounds 28 = .ok (.iload 4, 2) := by decide +kernel
theorem dX0_alikeRounds_30 : decode cX0_alikeRounds 30 = .ok (.iload_n 2, 1) := by decide +kernel
theorem dX0_alikeRounds_31 : decode cX0_alikeRounds 31 = .ok (.invokevirtual 80, 3) := by decide +kernel
theorem dX0_alikeRounds_34 : decode cX0_alikeRounds 34 = .ok (.invokestatic 83, 3) := by decide +kernel
theorem dX0_alikeRounds_37 : decode cX0_alikeRounds 37 = .ok (.istore_n 3, 1) := by decide +kernel
theorem dX0_alikeRounds_38 : decode cX0_alikeRounds 38 = .ok (.iinc 4 1, 3) := by decide +kernel
theorem dX0_alikeRounds_41 : decode cX0_alikeRounds 41 = .ok (.goto (-36), 3) := by decide +kernel
theorem dX0_alikeRounds_44 : decode cX0_alikeRounds 44 = .ok (.iconst 0, 1) := by decide +kernel
theorem dX0_alikeRounds_45 : decode cX0_alikeRounds 45 = .ok (.istore 4, 2) := by decide +kernel
theorem dX0_alikeRounds_47 : decode cX0_alikeRounds 47 = .ok (.iload 4, 2) := by decide +kernel
theorem dX0_alikeRounds_49 : decode cX0_alikeRounds 49 = .ok (.aload_n 0, 1) := by decide +kernel
theorem dX0_alikeRounds_50 : decode cX0_alikeRounds 50 = .ok (.getfield 18, 3) := by decide +kernel
theorem dX0_alikeRounds_53 : decode cX0_alikeRounds 53 = .ok (.getfield 32, 3) := by decide +kernel
theorem dX0_alikeRounds_56 : decode cX0_alikeRounds 56 = .ok (.if_icmp .ge 38, 3) := by decide +kernel
theorem dX0_alikeRounds_59 : decode cX0_alikeRounds 59 = .ok (.aload_n 0, 1) := by decide +kernel
theorem dX0_alikeRounds_60 : decode cX0_alikeRounds 60 = .ok (.iload 4, 2) := by decide +kernel
theorem dX0_alikeRounds_62 : decode cX0_alikeRounds 62 = .ok (.iload_n 1, 1) := by decide +kernel
theorem dX0_alikeRounds_63 : decode cX0_alikeRounds 63 = .ok (.invokevirtual 86, 3) := by decide +kernel
theorem dX0_alikeRounds_66 : decode cX0_alikeRounds 66 = .ok (.istore 5, 2) := by decide +kernel
theorem dX0_alikeRounds_68 : decode cX0_alikeRounds 68 = .ok (.iload 5, 2) := by decide +kernel
theorem dX0_alikeRounds_70 : decode cX0_alikeRounds 70 = .ok (.ifCond .le 18, 3) := by decide +kernel
theorem dX0_alikeRounds_73 : decode cX0_alikeRounds 73 = .ok (.iload_n 3, 1) := by decide +kernel
theorem dX0_alikeRounds_74 : decode cX0_alikeRounds 74 = .ok (.aload_n 0, 1) := by decide +kernel
theorem dX0_alikeRounds_75 : decode cX0_alikeRounds 75 = .ok (.getfield 15, 3) := by decide +kernel
theorem dX0_alikeRounds_78 : decode cX0_alikeRounds 78 = .ok (.iload 4, 2) := by decide +kernel
theorem dX0_alikeRounds_80 : decode cX0_alikeRounds 80 = .ok (.iaload, 1) := by decide +kernel
theorem dX0_alikeRounds_81 : decode cX0_alikeRounds 81 = .ok (.iload 5, 2) := by decide +kernel
theorem dX0_alikeRounds_83 : decode cX0_alikeRounds 83 = .ok (.idiv, 1) := by decide +kernel
theorem dX0_alikeRounds_84 : decode cX0_alikeRounds 84 = .ok (.invokestatic 83, 3) := by decide +kernel
theorem dX0_alikeRounds_87 : decode cX0_alikeRounds 87 = .ok (.istore_n 3, 1) := by decide +kernel
theorem dX0_alikeRounds_88 : decode cX0_alikeRounds 88 = .ok (.iinc 4 1, 3) := by decide +kernel
theorem dX0_alikeRounds_91 : decode cX0_alikeRounds 91 = .ok (.goto (-44), 3) := by decide +kernel
theorem dX0_alikeRounds_94 : decode cX0_alikeRounds 94 = .ok (.iload_n 3, 1) := by decide +kernel
theorem dX0_alikeRounds_95 : decode cX0_alikeRounds 95 = .ok (.ireturn, 1) := by decide +kernel
set_option maxRecDepth 20000 in
theorem ggX0_roundsTillPaying_X0_pays : GoodIn wsX0_roundsTillPaying wsX0_pays := goodIn_r _ [12, 3, 1, 13, 14, 15, 16, 17, 18, 19, 20, 21, 22, 23, 24, 25, 26, 27, 28, 29, 30, 31, 32] (by decide +kernel) (by decide +kernel)
set_option maxRecDepth 20000 in
theorem gX0_roundsTillPaying_X0_pays : GoodIn wsX0_roundsTillPaying (wsV RX0 70 RX0 yX0_pays wsX0_pays) := goodIn_app (goodIn_of _ (by decide +kernel)) ggX0_roundsTillPaying_X0_pays
set_option maxRecDepth 20000 in
theorem ggX0_roundsTillPaying_X5_tripOf : GoodIn wsX0_roundsTillPaying wsX5_tripOf := goodIn_r _ [17, 18, 19, 23, 24, 25, 26, 27, 28, 29, 30, 31, 32] (by decide +kernel) (by decide +kernel)
set_option maxRecDepth 20000 in
theorem gX0_roundsTillPaying_X5_tripOf : GoodIn wsX0_roundsTillPaying (wsV RX0 35 RX5 yX5_tripOf wsX5_tripOf) := goodIn_app (goodIn_of _ (by decide +kernel)) ggX0_roundsTillPaying_X5_tripOf
theorem dX0_roundsTillPaying_0 : decode cX0_roundsTillPaying 0 = .ok (.iload_n 2, 1) := by decide +kernel
theorem dX0_roundsTillPaying_1 : decode cX0_roundsTillPaying 1 = .ok (.istore_n 3, 1) := by decide +kernel
theorem dX0_roundsTillPaying_2 : decode cX0_roundsTillPaying 2 = .ok (.iconst 0, 1) := by decide +kernel
theorem dX0_roundsTillPaying_3 : decode cX0_roundsTillPaying 3 = .ok (.istore 4, 2) := by decide +kernel
theorem dX0_roundsTillPaying_5 : decode cX0_roundsTillPaying 5 = .ok (.iload 4, 2) := by decide +kernel
theorem dX0_roundsTillPaying_7 : decode cX0_roundsTillPaying 7 = .ok (.aload_n 0, 1) := by decide +kernel
theorem dX0_roundsTillPaying_8 : decode cX0_roundsTillPaying 8 = .ok (.getfield 18, 3) := by decide +kernel
theorem dX0_roundsTillPaying_11 : decode cX0_roundsTillPaying 11 = .ok (.getfield 32, 3) := by decide +kernel
theorem dX0_roundsTillPaying_14 : decode cX0_roundsTillPaying 14 = .ok (.if_icmp .ge 41, 3) := by decide +kernel
theorem dX0_roundsTillPaying_17 : decode cX0_roundsTillPaying 17 = .ok (.aload_n 0, 1) := by decide +kernel
theorem dX0_roundsTillPaying_18 : decode cX0_roundsTillPaying 18 = .ok (.iload_n 1, 1) := by decide +kernel
theorem dX0_roundsTillPaying_19 : decode cX0_roundsTillPaying 19 = .ok (.iload 4, 2) := by decide +kernel
theorem dX0_roundsTillPaying_21 : decode cX0_roundsTillPaying 21 = .ok (.invokevirtual 70, 3) := by decide +kernel
theorem dX0_roundsTillPaying_24 : decode cX0_roundsTillPaying 24 = .ok (.ifCond .ne 25, 3) := by decide +kernel
theorem dX0_roundsTillPaying_27 : decode cX0_roundsTillPaying 27 = .ok (.iload_n 3, 1) := by decide +kernel
theorem dX0_roundsTillPaying_28 : decode cX0_roundsTillPaying 28 = .ok (.aload_n 0, 1) := by decide +kernel
theorem dX0_roundsTillPaying_29 : decode cX0_roundsTillPaying 29 = .ok (.getfield 18, 3) := by decide +kernel
theorem dX0_roundsTillPaying_32 : decode cX0_roundsTillPaying 32 = .ok (.iload 4, 2) := by decide +kernel
theorem dX0_roundsTillPaying_34 : decode cX0_roundsTillPaying 34 = .ok (.iload_n 1, 1) := by decide +kernel
theorem dX0_roundsTillPaying_35 : decode cX0_roundsTillPaying 35 = .ok (.invokevirtual 35, 3) := by decide +kernel
theorem dX0_roundsTillPaying_38 : decode cX0_roundsTillPaying 38 = .ok (.aload_n 0, 1) := by decide +kernel
theorem dX0_roundsTillPaying_39 : decode cX0_roundsTillPaying 39 = .ok (.getfield 9, 3) := by decide +kernel
theorem dX0_roundsTillPaying_42 : decode cX0_roundsTillPaying 42 = .ok (.iload_n 1, 1) := by decide +kernel
theorem dX0_roundsTillPaying_43 : decode cX0_roundsTillPaying 43 = .ok (.iaload, 1) := by decide +kernel
theorem dX0_roundsTillPaying_44 : decode cX0_roundsTillPaying 44 = .ok (.isub, 1) := by decide +kernel
theorem dX0_roundsTillPaying_45 : decode cX0_roundsTillPaying 45 = .ok (.invokestatic 83, 3) := by decide +kernel
theorem dX0_roundsTillPaying_48 : decode cX0_roundsTillPaying 48 = .ok (.istore_n 3, 1) := by decide +kernel
theorem dX0_roundsTillPaying_49 : decode cX0_roundsTillPaying 49 = .ok (.iinc 4 1, 3) := by decide +kernel
theorem dX0_roundsTillPaying_52 : decode cX0_roundsTillPaying 52 = .ok (.goto (-47), 3) := by decide +kernel
theorem dX0_roundsTillPaying_55 : decode cX0_roundsTillPaying 55 = .ok (.iload_n 3, 1) := by decide +kernel
theorem dX0_roundsTillPaying_56 : decode cX0_roundsTillPaying 56 = .ok (.ireturn, 1) := by decide +kernel
set_option maxRecDepth 20000 in
theorem ggX0_payersOf_X5_isIn : GoodIn wsX0_payersOf wsX5_isIn := goodIn_r _ [6] (by decide +kernel) (by decide +kernel)
set_option maxRecDepth 20000 in
theorem gX0_payersOf_X5_isIn : GoodIn wsX0_payersOf (va_wsS RX0 28 yX5_isIn wsX5_isIn) := goodIn_app (goodIn_of _ (by decide +kernel)) ggX0_payersOf_X5_isIn
set_option maxRecDepth 20000 in
theorem ggX0_payersOf_X0_pays : GoodIn wsX0_payersOf wsX0_pays := goodIn_r _ [11, 12, 1, 13, 14, 15, 5, 16, 17, 18, 19, 20, 21, 22, 23, 24, 25, 26, 27, 28, 29, 30, 31] (by decide +kernel) (by decide +kernel)
set_option maxRecDepth 20000 in
theorem gX0_payersOf_X0_pays : GoodIn wsX0_payersOf (wsV RX0 70 RX0 yX0_pays wsX0_pays) := goodIn_app (goodIn_of _ (by decide +kernel)) ggX0_payersOf_X0_pays
theorem dX0_payersOf_0 : decode cX0_payersOf 0 = .ok (.iconst 0, 1) := by decide +kernel
theorem dX0_payersOf_1 : decode cX0_payersOf 1 = .ok (.istore_n 3, 1) := by decide +kernel
theorem dX0_payersOf_2 : decode cX0_payersOf 2 = .ok (.iconst 0, 1) := by decide +kernel
theorem dX0_payersOf_3 : decode cX0_payersOf 3 = .ok (.istore 4, 2) := by decide +kernel
theorem dX0_payersOf_5 : decode cX0_payersOf 5 = .ok (.iload 4, 2) := by decide +kernel
theorem dX0_payersOf_7 : decode cX0_payersOf 7 = .ok (.aload_n 0, 1) := by decide +kernel
theorem dX0_payersOf_8 : decode cX0_payersOf 8 = .ok (.getfield 18, 3) := by decide +kernel
theorem dX0_payersOf_11 : decode cX0_payersOf 11 = .ok (.getfield 22, 3) := by decide +kernel
theorem dX0_payersOf_14 : decode cX0_payersOf 14 = .ok (.if_icmp .ge 36, 3) := by decide +kernel
theorem dX0_payersOf_17 : decode cX0_payersOf 17 = .ok (.iload_n 3, 1) := by decide +kernel
theorem dX0_payersOf_18 : decode cX0_payersOf 18 = .ok (.iload 4, 2) := by decide +kernel
theorem dX0_payersOf_20 : decode cX0_payersOf 20 = .ok (.iload_n 2, 1) := by decide +kernel
theorem dX0_payersOf_21 : decode cX0_payersOf 21 = .ok (.invokestatic 28, 3) := by decide +kernel
theorem dX0_payersOf_24 : decode cX0_payersOf 24 = .ok (.ifCond .eq 17, 3) := by decide +kernel
theorem dX0_payersOf_27 : decode cX0_payersOf 27 = .ok (.aload_n 0, 1) := by decide +kernel
theorem dX0_payersOf_28 : decode cX0_payersOf 28 = .ok (.iload 4, 2) := by decide +kernel
theorem dX0_payersOf_30 : decode cX0_payersOf 30 = .ok (.iload_n 1, 1) := by decide +kernel
theorem dX0_payersOf_31 : decode cX0_payersOf 31 = .ok (.invokevirtual 70, 3) := by decide +kernel
theorem dX0_payersOf_34 : decode cX0_payersOf 34 = .ok (.ifCond .eq 7, 3) := by decide +kernel
theorem dX0_payersOf_37 : decode cX0_payersOf 37 = .ok (.iconst 1, 1) := by decide +kernel
theorem dX0_payersOf_38 : decode cX0_payersOf 38 = .ok (.goto 4, 3) := by decide +kernel
theorem dX0_payersOf_41 : decode cX0_payersOf 41 = .ok (.iconst 0, 1) := by decide +kernel
theorem dX0_payersOf_42 : decode cX0_payersOf 42 = .ok (.iadd, 1) := by decide +kernel
theorem dX0_payersOf_43 : decode cX0_payersOf 43 = .ok (.istore_n 3, 1) := by decide +kernel
theorem dX0_payersOf_44 : decode cX0_payersOf 44 = .ok (.iinc 4 1, 3) := by decide +kernel
theorem dX0_payersOf_47 : decode cX0_payersOf 47 = .ok (.goto (-42), 3) := by decide +kernel
theorem dX0_payersOf_50 : decode cX0_payersOf 50 = .ok (.iload_n 3, 1) := by decide +kernel
theorem dX0_payersOf_51 : decode cX0_payersOf 51 = .ok (.ireturn, 1) := by decide +kernel
set_option maxRecDepth 20000 in
theorem ggX0_raiseBy_X0_pays : GoodIn wsX0_raiseBy wsX0_pays := goodIn_r _ [9, 4, 1, 10, 11, 12, 13, 14, 15, 16, 17, 18, 19, 20, 21, 22, 23, 24, 25, 26, 27, 28, 29] (by decide +kernel) (by decide +kernel)
set_option maxRecDepth 20000 in
theorem gX0_raiseBy_X0_pays : GoodIn wsX0_raiseBy (wsV RX0 70 RX0 yX0_pays wsX0_pays) := goodIn_app (goodIn_of _ (by decide +kernel)) ggX0_raiseBy_X0_pays
theorem dX0_raiseBy_0 : decode cX0_raiseBy 0 = .ok (.iconst 0, 1) := by decide +kernel
theorem dX0_raiseBy_1 : decode cX0_raiseBy 1 = .ok (.istore_n 3, 1) := by decide +kernel
theorem dX0_raiseBy_2 : decode cX0_raiseBy 2 = .ok (.iload_n 3, 1) := by decide +kernel
theorem dX0_raiseBy_3 : decode cX0_raiseBy 3 = .ok (.aload_n 0, 1) := by decide +kernel
theorem dX0_raiseBy_4 : decode cX0_raiseBy 4 = .ok (.getfield 18, 3) := by decide +kernel
theorem dX0_raiseBy_7 : decode cX0_raiseBy 7 = .ok (.getfield 32, 3) := by decide +kernel
theorem dX0_raiseBy_10 : decode cX0_raiseBy 10 = .ok (.if_icmp .ge 32, 3) := by decide +kernel
theorem dX0_raiseBy_13 : decode cX0_raiseBy 13 = .ok (.aload_n 0, 1) := by decide +kernel
theorem dX0_raiseBy_14 : decode cX0_raiseBy 14 = .ok (.getfield 15, 3) := by decide +kernel
theorem dX0_raiseBy_17 : decode cX0_raiseBy 17 = .ok (.iload_n 3, 1) := by decide +kernel
theorem dX0_raiseBy_18 : decode cX0_raiseBy 18 = .ok (.dup2, 1) := by decide +kernel
theorem dX0_raiseBy_19 : decode cX0_raiseBy 19 = .ok (.iaload, 1) := by decide +kernel
theorem dX0_raiseBy_20 : decode cX0_raiseBy 20 = .ok (.aload_n 0, 1) := by decide +kernel
theorem dX0_raiseBy_21 : decode cX0_raiseBy 21 = .ok (.iload_n 1, 1) := by decide +kernel
theorem dX0_raiseBy_22 : decode cX0_raiseBy 22 = .ok (.iload_n 3, 1) := by decide +kernel
theorem dX0_raiseBy_23 : decode cX0_raiseBy 23 = .ok (.invokevirtual 70, 3) := by decide +kernel
theorem dX0_raiseBy_26 : decode cX0_raiseBy 26 = .ok (.ifCond .eq 7, 3) := by decide +kernel
theorem dX0_raiseBy_29 : decode cX0_raiseBy 29 = .ok (.iload_n 2, 1) := by decide +kernel
theorem dX0_raiseBy_30 : decode cX0_raiseBy 30 = .ok (.goto 4, 3) := by decide +kernel
theorem dX0_raiseBy_33 : decode cX0_raiseBy 33 = .ok (.iconst 0, 1) := by decide +kernel
theorem dX0_raiseBy_34 : decode cX0_raiseBy 34 = .ok (.isub, 1) := by decide +kernel
theorem dX0_raiseBy_35 : decode cX0_raiseBy 35 = .ok (.iastore, 1) := by decide +kernel
theorem dX0_raiseBy_36 : decode cX0_raiseBy 36 = .ok (.iinc 3 1, 3) := by decide +kernel
theorem dX0_raiseBy_39 : decode cX0_raiseBy 39 = .ok (.goto (-37), 3) := by decide +kernel
theorem dX0_raiseBy_42 : decode cX0_raiseBy 42 = .ok (.aload_n 0, 1) := by decide +kernel
theorem dX0_raiseBy_43 : decode cX0_raiseBy 43 = .ok (.getfield 9, 3) := by decide +kernel
theorem dX0_raiseBy_46 : decode cX0_raiseBy 46 = .ok (.iload_n 1, 1) := by decide +kernel
theorem dX0_raiseBy_47 : decode cX0_raiseBy 47 = .ok (.dup2, 1) := by decide +kernel
theorem dX0_raiseBy_48 : decode cX0_raiseBy 48 = .ok (.iaload, 1) := by decide +kernel
theorem dX0_raiseBy_49 : decode cX0_raiseBy 49 = .ok (.iload_n 2, 1) := by decide +kernel
theorem dX0_raiseBy_50 : decode cX0_raiseBy 50 = .ok (.iadd, 1) := by decide +kernel
theorem dX0_raiseBy_51 : decode cX0_raiseBy 51 = .ok (.iastore, 1) := by decide +kernel
theorem dX0_raiseBy_52 : decode cX0_raiseBy 52 = .ok (.return_, 1) := by decide +kernel
theorem dX1_init_0 : decode cX1_init 0 = .ok (.aload_n 0, 1) := by decide +kernel
theorem dX1_init_1 : decode cX1_init 1 = .ok (.invokespecial 3, 3) := by decide +kernel
theorem dX1_init_4 : decode cX1_init 4 = .ok (.aload_n 0, 1) := by decide +kernel
theorem dX1_init_5 : decode cX1_init 5 = .ok (.sipush 128, 3) := by decide +kernel
theorem dX1_init_8 : decode cX1_init 8 = .ok (.newarray .int, 2) := by decide +kernel
theorem dX1_init_10 : decode cX1_init 10 = .ok (.putfield 9, 3) := by decide +kernel
theorem dX1_init_13 : decode cX1_init 13 = .ok (.aload_n 0, 1) := by decide +kernel
theorem dX1_init_14 : decode cX1_init 14 = .ok (.aload_n 1, 1) := by decide +kernel
theorem dX1_init_15 : decode cX1_init 15 = .ok (.putfield 15, 3) := by decide +kernel
theorem dX1_init_18 : decode cX1_init 18 = .ok (.aload_n 0, 1) := by decide +kernel
theorem dX1_init_19 : decode cX1_init 19 = .ok (.aload_n 2, 1) := by decide +kernel
theorem dX1_init_20 : decode cX1_init 20 = .ok (.putfield 19, 3) := by decide +kernel
theorem dX1_init_23 : decode cX1_init 23 = .ok (.aload_n 0, 1) := by decide +kernel
theorem dX1_init_24 : decode cX1_init 24 = .ok (.aload_n 3, 1) := by decide +kernel
theorem dX1_init_25 : decode cX1_init 25 = .ok (.putfield 23, 3) := by decide +kernel
theorem dX1_init_28 : decode cX1_init 28 = .ok (.return_, 1) := by decide +kernel
set_option maxRecDepth 20000 in
theorem ggX1_costOf_X1_mostOf : GoodIn wsX1_costOf wsX1_mostOf := goodIn_r _ [8, 1, 2, 9, 10, 11, 12, 13, 14, 15, 16, 17, 18, 19, 20, 153, 154, 155, 156, 157, 158, 159, 160, 161, 162, 163, 164, 165, 166, 167, 168, 169, 170, 171, 172] (by decide +kernel) (by decide +kernel)
set_option maxRecDepth 20000 in
theorem gX1_costOf_X1_mostOf : GoodIn wsX1_costOf (wsV RX1 32 RX1 yX1_mostOf wsX1_mostOf) := goodIn_app (goodIn_of _ (by decide +kernel)) ggX1_costOf_X1_mostOf
set_option maxRecDepth 20000 in
theorem ggX1_costOf_X1_withPrices : GoodIn wsX1_costOf wsX1_withPrices := goodIn_r _ [24, 1, 25, 153, 154, 155, 156, 157, 158, 159, 160, 161, 162] (by decide +kernel) (by decide +kernel)
set_option maxRecDepth 20000 in
theorem gX1_costOf_X1_withPrices : GoodIn wsX1_costOf (wsV RX1 36 RX1 yX1_withPrices wsX1_withPrices) := goodIn_app (goodIn_of _ (by decide +kernel)) ggX1_costOf_X1_withPrices
set_option maxRecDepth 20000 in
theorem ggX1_costOf_X7_fillingOf : GoodIn wsX1_costOf wsX7_fillingOf := goodIn_r _ [30, 31, 32, 33, 34, 35, 36, 29, 37, 38, 39, 40, 41, 42, 43, 44, 45, 46, 47, 48, 49, 50, 51, 52, 53, 54, 55, 56, 57, 58, 59, 60, 61, 62, 63, 64, 65, 66, 67, 68, 69, 70, 71, 72, 73, 18, 74, 75, 76, 77, 78, 79, 80, 81, 82, 83, 84, 16, 17, 19, 20, 85, 86, 87, 88, 89, 90, 91, 92, 93, 94, 95, 96, 97, 98, 99, 100, 101, 102, 103, 104, 105, 106, 107, 108, 109, 13, 110, 173, 174, 175, 176, 177, 178, 179, 180, 181, 182, 163, 164, 165, 166, 167, 168, 169, 170, 171, 172, 158, 159, 160, 161, 162] (by decide +kernel) (by decide +kernel)
set_option maxRecDepth 20000 in
theorem gX1_costOf_X7_fillingOf : GoodIn wsX1_costOf (wsV RX1 40 RX7 yX7_fillingOf wsX7_fillingOf) := goodIn_app (goodIn_of _ (by decide +kernel)) ggX1_costOf_X7_fillingOf
set_option maxRecDepth 20000 in
theorem ggX1_costOf_X7_tripsOf : GoodIn wsX1_costOf wsX7_tripsOf := goodIn_r _ [113, 41] (by decide +kernel) (by decide +kernel)
set_option maxRecDepth 20000 in
theorem gX1_costOf_X7_tripsOf : GoodIn wsX1_costOf (va_wsS RX1 46 yX7_tripsOf wsX7_tripsOf) := goodIn_app (goodIn_of _ (by decide +kernel)) ggX1_costOf_X7_tripsOf
set_option maxRecDepth 20000 in
theorem ggX1_costOf_X1_finedOf : GoodIn wsX1_costOf wsX1_finedOf := goodIn_r _ [117, 1, 25, 9, 10, 118, 119, 120, 121, 13, 122, 15, 16, 17, 18, 19, 20, 153, 154, 155, 156, 157, 158, 159, 160, 161, 162, 163, 164, 165, 166, 167, 168, 169, 170, 171, 172] (by decide +kernel) (by decide +kernel)
set_option maxRecDepth 20000 in
theorem gX1_costOf_X1_finedOf : GoodIn wsX1_costOf (wsV RX1 50 RX1 yX1_finedOf wsX1_finedOf) := goodIn_app (goodIn_of _ (by decide +kernel)) ggX1_costOf_X1_finedOf
set_option maxRecDepth 20000 in
theorem ggX1_costOf_X1_closedOf : GoodIn wsX1_costOf wsX1_closedOf := goodIn_r _ [126, 1, 2, 127, 128, 129, 7, 130, 9, 131, 132, 133, 134, 135, 136, 137, 138, 139, 78, 54, 79, 153, 154, 155, 156, 157, 158, 159, 160, 161, 162, 163, 164, 165, 166, 167, 168, 169, 170, 171, 172] (by decide +kernel) (by decide +kernel)
set_option maxRecDepth 20000 in
theorem gX1_costOf_X1_closedOf : GoodIn wsX1_costOf (wsV RX1 53 RX1 yX1_closedOf wsX1_closedOf) := goodIn_app (goodIn_of _ (by decide +kernel)) ggX1_costOf_X1_closedOf
set_option maxRecDepth 20000 in
theorem ggX1_costOf_X1_rivalOf : GoodIn wsX1_costOf wsX1_rivalOf := goodIn_r _ [143, 144, 145, 146, 7, 147, 9, 131, 139, 78, 54, 79, 148, 149, 150, 151, 10, 1, 119, 152, 81, 82, 83, 57, 15, 16, 17, 18, 19, 20, 153, 154, 155, 156, 157, 163, 164, 165, 166, 167, 168, 169, 170, 171, 172, 158, 159, 160, 161, 162] (by decide +kernel) (by decide +kernel)
set_option maxRecDepth 20000 in
theorem gX1_costOf_X1_rivalOf : GoodIn wsX1_costOf (wsV RX1 56 RX1 yX1_rivalOf wsX1_rivalOf) := goodIn_app (goodIn_of _ (by decide +kernel)) ggX1_costOf_X1_rivalOf
theorem dX1_costOf_0 : decode cX1_costOf 0 = .ok (.iload_n 1, 1) := by decide +kernel
theorem dX1_costOf_1 : decode cX1_costOf 1 = .ok (.tableswitch 99 0 5 #[39, 49, 55, 70, 87, 93], 39) := by decide +kernel
theorem dX1_costOf_40 : decode cX1_costOf 40 = .ok (.aload_n 0, 1) := by decide +kernel
theorem dX1_costOf_41 : decode cX1_costOf 41 = .ok (.getfield 19, 3) := by decide +kernel
theorem dX1_costOf_44 : decode cX1_costOf 44 = .ok (.getfield 27, 3) := by decide +kernel
theorem dX1_costOf_47 : decode cX1_costOf 47 = .ok (.iload_n 2, 1) := by decide +kernel
theorem dX1_costOf_48 : decode cX1_costOf 48 = .ok (.iaload, 1) := by decide +kernel
theorem dX1_costOf_49 : decode cX1_costOf 49 = .ok (.ireturn, 1) := by decide +kernel
theorem dX1_costOf_50 : decode cX1_costOf 50 = .ok (.aload_n 0, 1) := by decide +kernel
theorem dX1_costOf_51 : decode cX1_costOf 51 = .ok (.iload_n 2, 1) := by decide +kernel
theorem dX1_costOf_52 : decode cX1_costOf 52 = .ok (.invokevirtual 32, 3) := by decide +kernel
theorem dX1_costOf_55 : decode cX1_costOf 55 = .ok (.ireturn, 1) := by decide +kernel
theorem dX1_costOf_56 : decode cX1_costOf 56 = .ok (.aload_n 0, 1) := by decide +kernel
theorem dX1_costOf_57 : decode cX1_costOf 57 = .ok (.aload_n 0, 1) := by decide +kernel
theorem dX1_costOf_58 : decode cX1_costOf 58 = .ok (.getfield 19, 3) := by decide +kernel
theorem dX1_costOf_61 : decode cX1_costOf 61 = .ok (.getfield 27, 3) := by decide +kernel
theorem dX1_costOf_64 : decode cX1_costOf 64 = .ok (.iload_n 2, 1) := by decide +kernel
theorem dX1_costOf_65 : decode cX1_costOf 65 = .ok (.iaload, 1) := by decide +kernel
theorem dX1_costOf_66 : decode cX1_costOf 66 = .ok (.iload_n 2, 1) := by decide +kernel
theorem dX1_costOf_67 : decode cX1_costOf 67 = .ok (.invokevirtual 36, 3) := by decide +kernel
theorem dX1_costOf_70 : decode cX1_costOf 70 = .ok (.ireturn, 1) := by decide +kernel
theorem dX1_costOf_71 : decode cX1_costOf 71 = .ok (.aload_n 0, 1) := by decide +kernel
theorem dX1_costOf_72 : decode cX1_costOf 72 = .ok (.aload_n 0, 1) := by decide +kernel
theorem dX1_costOf_73 : decode cX1_costOf 73 = .ok (.getfield 23, 3) := by decide +kernel
theorem dX1_costOf_76 : decode cX1_costOf 76 = .ok (.iload_n 2, 1) := by decide +kernel
theorem dX1_costOf_77 : decode cX1_costOf 77 = .ok (.invokevirtual 40, 3) := by decide +kernel
theorem dX1_costOf_80 : decode cX1_costOf 80 = .ok (.invokestatic 46, 3) := by decide +kernel
theorem dX1_costOf_83 : decode cX1_costOf 83 = .ok (.iload_n 2, 1) := by decide +kernel
theorem dX1_costOf_84 : decode cX1_costOf 84 = .ok (.invokevirtual 36, 3) := by decide +kernel
theorem dX1_costOf_87 : decode cX1_costOf 87 = .ok (.ireturn, 1) := by decide +kernel
theorem dX1_costOf_88 : decode cX1_costOf 88 = .ok (.aload_n 0, 1) := by decide +kernel
theorem dX1_costOf_89 : decode cX1_costOf 89 = .ok (.iload_n 2, 1) := by decide +kernel
theorem dX1_costOf_90 : decode cX1_costOf 90 = .ok (.invokevirtual 50, 3) := by decide +kernel
theorem dX1_costOf_93 : decode cX1_costOf 93 = .ok (.ireturn, 1) := by decide +kernel
theorem dX1_costOf_94 : decode cX1_costOf 94 = .ok (.aload_n 0, 1) := by decide +kernel
theorem dX1_costOf_95 : decode cX1_costOf 95 = .ok (.iload_n 2, 1) := by decide +kernel
theorem dX1_costOf_96 : decode cX1_costOf 96 = .ok (.invokevirtual 53, 3) := by decide +kernel
theorem dX1_costOf_99 : decode cX1_costOf 99 = .ok (.ireturn, 1) := by decide +kernel
theorem dX1_costOf_100 : decode cX1_costOf 100 = .ok (.aload_n 0, 1) := by decide +kernel
theorem dX1_costOf_101 : decode cX1_costOf 101 = .ok (.iload_n 2, 1) := by decide +kernel
theorem dX1_costOf_102 : decode cX1_costOf 102 = .ok (.invokevirtual 56, 3) := by decide +kernel
theorem dX1_costOf_105 : decode cX1_costOf 105 = .ok (.ireturn, 1) := by decide +kernel
theorem dX1_withPrices_0 : decode cX1_withPrices 0 = .ok (.iload_n 1, 1) := by decide +kernel
theorem dX1_withPrices_1 : decode cX1_withPrices 1 = .ok (.iconst (-1), 1) := by decide +kernel
theorem dX1_withPrices_2 : decode cX1_withPrices 2 = .ok (.if_icmp .ne 7, 3) := by decide +kernel
theorem dX1_withPrices_5 : decode cX1_withPrices 5 = .ok (.iconst (-1), 1) := by decide +kernel
theorem dX1_withPrices_6 : decode cX1_withPrices 6 = .ok (.goto 14, 3) := by decide +kernel
theorem dX1_withPrices_9 : decode cX1_withPrices 9 = .ok (.iload_n 1, 1) := by decide +kernel
theorem dX1_withPrices_10 : decode cX1_withPrices 10 = .ok (.aload_n 0, 1) := by decide +kernel
theorem dX1_withPrices_11 : decode cX1_withPrices 11 = .ok (.getfield 19, 3) := by decide +kernel
theorem dX1_withPrices_14 : decode cX1_withPrices 14 = .ok (.getfield 59, 3) := by decide +kernel
theorem dX1_withPrices_17 : decode cX1_withPrices 17 = .ok (.iload_n 2, 1) := by decide +kernel
theorem dX1_withPrices_18 : decode cX1_withPrices 18 = .ok (.iaload, 1) := by decide +kernel
theorem dX1_withPrices_19 : decode cX1_withPrices 19 = .ok (.iadd, 1) := by decide +kernel
theorem dX1_withPrices_20 : decode cX1_withPrices 20 = .ok (.ireturn, 1) := by decide +kernel
set_option maxRecDepth 20000 in
theorem ggX1_mostOf_X6_nearWay : GoodIn wsX1_mostOf wsX6_nearWay := goodIn_r _ [13, 14, 20, 21, 22, 23, 24] (by decide +kernel) (by decide +kernel)
set_option maxRecDepth 20000 in
theorem gX1_mostOf_X6_nearWay : GoodIn wsX1_mostOf (wsV RX1 68 RX6 yX6_nearWay wsX6_nearWay) := goodIn_app (goodIn_of _ (by decide +kernel)) ggX1_mostOf_X6_nearWay
theorem dX1_mostOf_0 : decode cX1_mostOf 0 = .ok (.aload_n 0, 1) := by decide +kernel
theorem dX1_mostOf_1 : decode cX1_mostOf 1 = .ok (.getfield 19, 3) := by decide +kernel
theorem dX1_mostOf_4 : decode cX1_mostOf 4 = .ok (.getfield 27, 3) := by decide +kernel
theorem dX1_mostOf_7 : decode cX1_mostOf 7 = .ok (.iload_n 1, 1) := by decide +kernel
theorem dX1_mostOf_8 : decode cX1_mostOf 8 = .ok (.iaload, 1) := by decide +kernel
theorem dX1_mostOf_9 : decode cX1_mostOf 9 = .ok (.iconst (-1), 1) := by decide +kernel
theorem dX1_mostOf_10 : decode cX1_mostOf 10 = .ok (.if_icmp .ne 5, 3) := by decide +kernel
theorem dX1_mostOf_13 : decode cX1_mostOf 13 = .ok (.iconst (-1), 1) := by decide +kernel
theorem dX1_mostOf_14 : decode cX1_mostOf 14 = .ok (.ireturn, 1) := by decide +kernel
theorem dX1_mostOf_15 : decode cX1_mostOf 15 = .ok (.iconst 0, 1) := by decide +kernel
theorem dX1_mostOf_16 : decode cX1_mostOf 16 = .ok (.istore_n 2, 1) := by decide +kernel
theorem dX1_mostOf_17 : decode cX1_mostOf 17 = .ok (.iconst 0, 1) := by decide +kernel
theorem dX1_mostOf_18 : decode cX1_mostOf 18 = .ok (.istore_n 3, 1) := by decide +kernel
theorem dX1_mostOf_19 : decode cX1_mostOf 19 = .ok (.iload_n 3, 1) := by decide +kernel
theorem dX1_mostOf_20 : decode cX1_mostOf 20 = .ok (.aload_n 0, 1) := by decide +kernel
theorem dX1_mostOf_21 : decode cX1_mostOf 21 = .ok (.getfield 15, 3) := by decide +kernel
theorem dX1_mostOf_24 : decode cX1_mostOf 24 = .ok (.getfield 62, 3) := by decide +kernel
theorem dX1_mostOf_27 : decode cX1_mostOf 27 = .ok (.if_icmp .ge 23, 3) := by decide +kernel
theorem dX1_mostOf_30 : decode cX1_mostOf 30 = .ok (.iload_n 2, 1) := by decide +kernel
theorem dX1_mostOf_31 : decode cX1_mostOf 31 = .ok (.aload_n 0, 1) := by decide +kernel
theorem dX1_mostOf_32 : decode cX1_mostOf 32 = .ok (.getfield 19, 3) := by decide +kernel
theorem dX1_mostOf_35 : decode cX1_mostOf 35 = .ok (.iload_n 1, 1) := by decide +kernel
theorem dX1_mostOf_36 : decode cX1_mostOf 36 = .ok (.iload_n 3, 1) := by decide +kernel
theorem dX1_mostOf_37 : decode cX1_mostOf 37 = .ok (.invokevirtual 68, 3) := by decide +kernel
theorem dX1_mostOf_40 : decode cX1_mostOf 40 = .ok (.invokestatic 71, 3) := by decide +kernel
theorem dX1_mostOf_43 : decode cX1_mostOf 43 = .ok (.istore_n 2, 1) := by decide +kernel
theorem dX1_mostOf_44 : decode cX1_mostOf 44 = .ok (.iinc 3 1, 3) := by decide +kernel
theorem dX1_mostOf_47 : decode cX1_mostOf 47 = .ok (.goto (-28), 3) := by decide +kernel
theorem dX1_mostOf_50 : decode cX1_mostOf 50 = .ok (.iload_n 2, 1) := by decide +kernel
theorem dX1_mostOf_51 : decode cX1_mostOf 51 = .ok (.ireturn, 1) := by decide +kernel
set_option maxRecDepth 20000 in
theorem ggX1_finedOf_X6_nearWay : GoodIn wsX1_finedOf wsX6_nearWay := goodIn_r _ [15, 16, 22, 23, 24, 25, 26] (by decide +kernel) (by decide +kernel)
set_option maxRecDepth 20000 in
theorem gX1_finedOf_X6_nearWay : GoodIn wsX1_finedOf (wsV RX1 68 RX6 yX6_nearWay wsX6_nearWay) := goodIn_app (goodIn_of _ (by decide +kernel)) ggX1_finedOf_X6_nearWay
theorem dX1_finedOf_0 : decode cX1_finedOf 0 = .ok (.aload_n 0, 1) := by decide +kernel
theorem dX1_finedOf_1 : decode cX1_finedOf 1 = .ok (.getfield 19, 3) := by decide +kernel
theorem dX1_finedOf_4 : decode cX1_finedOf 4 = .ok (.getfield 59, 3) := by decide +kernel
theorem dX1_finedOf_7 : decode cX1_finedOf 7 = .ok (.iload_n 1, 1) := by decide +kernel
theorem dX1_finedOf_8 : decode cX1_finedOf 8 = .ok (.iaload, 1) := by decide +kernel
theorem dX1_finedOf_9 : decode cX1_finedOf 9 = .ok (.istore_n 2, 1) := by decide +kernel
theorem dX1_finedOf_10 : decode cX1_finedOf 10 = .ok (.iconst 0, 1) := by decide +kernel
theorem dX1_finedOf_11 : decode cX1_finedOf 11 = .ok (.istore_n 3, 1) := by decide +kernel
theorem dX1_finedOf_12 : decode cX1_finedOf 12 = .ok (.iload_n 3, 1) := by decide +kernel
theorem dX1_finedOf_13 : decode cX1_finedOf 13 = .ok (.aload_n 0, 1) := by decide +kernel
theorem dX1_finedOf_14 : decode cX1_finedOf 14 = .ok (.getfield 15, 3) := by decide +kernel
theorem dX1_finedOf_17 : decode cX1_finedOf 17 = .ok (.getfield 62, 3) := by decide +kernel
theorem dX1_finedOf_20 : decode cX1_finedOf 20 = .ok (.if_icmp .ge 43, 3) := by decide +kernel
theorem dX1_finedOf_23 : decode cX1_finedOf 23 = .ok (.iload_n 2, 1) := by decide +kernel
theorem dX1_finedOf_24 : decode cX1_finedOf 24 = .ok (.aload_n 0, 1) := by decide +kernel
theorem dX1_finedOf_25 : decode cX1_finedOf 25 = .ok (.getfield 15, 3) := by decide +kernel
theorem dX1_finedOf_28 : decode cX1_finedOf 28 = .ok (.getfield 76, 3) := by decide +kernel
theorem dX1_finedOf_31 : decode cX1_finedOf 31 = .ok (.iload_n 3, 1) := by decide +kernel
theorem dX1_finedOf_32 : decode cX1_finedOf 32 = .ok (.iaload, 1) := by decide +kernel
theorem dX1_finedOf_33 : decode cX1_finedOf 33 = .ok (.aload_n 0, 1) := by decide +kernel
theorem dX1_finedOf_34 : decode cX1_finedOf 34 = .ok (.getfield 15, 3) := by decide +kernel
theorem dX1_finedOf_37 : decode cX1_finedOf 37 = .ok (.getfield 79, 3) := by decide +kernel
theorem dX1_finedOf_40 : decode cX1_finedOf 40 = .ok (.iload_n 3, 1) := by decide +kernel
theorem dX1_finedOf_41 : decode cX1_finedOf 41 = .ok (.iaload, 1) := by decide +kernel
theorem dX1_finedOf_42 : decode cX1_finedOf 42 = .ok (.aload_n 0, 1) := by decide +kernel
theorem dX1_finedOf_43 : decode cX1_finedOf 43 = .ok (.getfield 19, 3) := by decide +kernel
theorem dX1_finedOf_46 : decode cX1_finedOf 46 = .ok (.iload_n 1, 1) := by decide +kernel
theorem dX1_finedOf_47 : decode cX1_finedOf 47 = .ok (.iload_n 3, 1) := by decide +kernel
theorem dX1_finedOf_48 : decode cX1_finedOf 48 = .ok (.invokevirtual 68, 3) := by decide +kernel
theorem dX1_finedOf_51 : decode cX1_finedOf 51 = .ok (.imul, 1) := by decide +kernel
theorem dX1_finedOf_52 : decode cX1_finedOf 52 = .ok (.invokestatic 82, 3) := by decide +kernel
theorem dX1_finedOf_55 : decode cX1_finedOf 55 = .ok (.iadd, 1) := by decide +kernel
theorem dX1_finedOf_56 : decode cX1_finedOf 56 = .ok (.istore_n 2, 1) := by decide +kernel
theorem dX1_finedOf_57 : decode cX1_finedOf 57 = .ok (.iinc 3 1, 3) := by decide +kernel
theorem dX1_finedOf_60 : decode cX1_finedOf 60 = .ok (.goto (-48), 3) := by decide +kernel
theorem dX1_finedOf_63 : decode cX1_finedOf 63 = .ok (.iload_n 2, 1) := by decide +kernel
theorem dX1_finedOf_64 : decode cX1_finedOf 64 = .ok (.ireturn, 1) := by decide +kernel
set_option maxRecDepth 20000 in
theorem ggX1_closedOf_X1_worstToClose : GoodIn wsX1_closedOf wsX1_worstToClose := goodIn_r _ [7, 8, 9, 1, 2, 10, 11, 12, 13, 14, 15, 16, 17, 18, 19, 20, 21, 22, 23, 24, 25, 31, 32, 33, 34, 35, 36, 37, 38, 39, 40, 26, 27, 28, 29, 30] (by decide +kernel) (by decide +kernel)
set_option maxRecDepth 20000 in
theorem gX1_closedOf_X1_worstToClose : GoodIn wsX1_closedOf (wsV RX1 85 RX1 yX1_worstToClose wsX1_worstToClose) := goodIn_app (goodIn_of _ (by decide +kernel)) ggX1_closedOf_X1_worstToClose
theorem dX1_closedOf_0 : decode cX1_closedOf 0 = .ok (.aload_n 0, 1) := by decide +kernel
theorem dX1_closedOf_1 : decode cX1_closedOf 1 = .ok (.iload_n 1, 1) := by decide +kernel
theorem dX1_closedOf_2 : decode cX1_closedOf 2 = .ok (.invokevirtual 85, 3) := by decide +kernel
theorem dX1_closedOf_5 : decode cX1_closedOf 5 = .ok (.istore_n 2, 1) := by decide +kernel
theorem dX1_closedOf_6 : decode cX1_closedOf 6 = .ok (.iload_n 2, 1) := by decide +kernel
theorem dX1_closedOf_7 : decode cX1_closedOf 7 = .ok (.iconst (-1), 1) := by decide +kernel
theorem dX1_closedOf_8 : decode cX1_closedOf 8 = .ok (.if_icmp .ne 7, 3) := by decide +kernel
theorem dX1_closedOf_11 : decode cX1_closedOf 11 = .ok (.iconst (-1), 1) := by decide +kernel
theorem dX1_closedOf_12 : decode cX1_closedOf 12 = .ok (.goto 18, 3) := by decide +kernel
theorem dX1_closedOf_15 : decode cX1_closedOf 15 = .ok (.aload_n 0, 1) := by decide +kernel
theorem dX1_closedOf_16 : decode cX1_closedOf 16 = .ok (.getfield 19, 3) := by decide +kernel
theorem dX1_closedOf_19 : decode cX1_closedOf 19 = .ok (.getfield 27, 3) := by decide +kernel
theorem dX1_closedOf_22 : decode cX1_closedOf 22 = .ok (.iload_n 1, 1) := by decide +kernel
theorem dX1_closedOf_23 : decode cX1_closedOf 23 = .ok (.iconst 1, 1) := by decide +kernel
theorem dX1_closedOf_24 : decode cX1_closedOf 24 = .ok (.iload_n 2, 1) := by decide +kernel
theorem dX1_closedOf_25 : decode cX1_closedOf 25 = .ok (.ishl, 1) := by decide +kernel
theorem dX1_closedOf_26 : decode cX1_closedOf 26 = .ok (.iconst (-1), 1) := by decide +kernel
theorem dX1_closedOf_27 : decode cX1_closedOf 27 = .ok (.ixor, 1) := by decide +kernel
theorem dX1_closedOf_28 : decode cX1_closedOf 28 = .ok (.iand, 1) := by decide +kernel
theorem dX1_closedOf_29 : decode cX1_closedOf 29 = .ok (.iaload, 1) := by decide +kernel
theorem dX1_closedOf_30 : decode cX1_closedOf 30 = .ok (.ireturn, 1) := by decide +kernel
set_option maxRecDepth 20000 in
theorem ggX1_worstToClose_J6_bitCount_0f7a4 : GoodIn wsX1_worstToClose wsJ6_bitCount_0f7a4 := goodIn_r _ [8, 9, 10, 11] (by decide +kernel) (by decide +kernel)
set_option maxRecDepth 20000 in
theorem gX1_worstToClose_J6_bitCount_0f7a4 : GoodIn wsX1_worstToClose (va_wsS RX1 88 yJ6_bitCount_0f7a4 wsJ6_bitCount_0f7a4) := goodIn_app (goodIn_of _ (by decide +kernel)) ggX1_worstToClose_J6_bitCount_0f7a4
set_option maxRecDepth 20000 in
theorem ggX1_worstToClose_X5_isIn : GoodIn wsX1_worstToClose wsX5_isIn := goodIn_r _ [15] (by decide +kernel) (by decide +kernel)
set_option maxRecDepth 20000 in
theorem gX1_worstToClose_X5_isIn : GoodIn wsX1_worstToClose (va_wsS RX1 96 yX5_isIn wsX5_isIn) := goodIn_app (goodIn_of _ (by decide +kernel)) ggX1_worstToClose_X5_isIn
theorem dX1_worstToClose_0 : decode cX1_worstToClose 0 = .ok (.iload_n 1, 1) := by decide +kernel
theorem dX1_worstToClose_1 : decode cX1_worstToClose 1 = .ok (.invokestatic 88, 3) := by decide +kernel
theorem dX1_worstToClose_4 : decode cX1_worstToClose 4 = .ok (.iconst 2, 1) := by decide +kernel
theorem dX1_worstToClose_5 : decode cX1_worstToClose 5 = .ok (.if_icmp .ge 5, 3) := by decide +kernel
theorem dX1_worstToClose_8 : decode cX1_worstToClose 8 = .ok (.iconst (-1), 1) := by decide +kernel
theorem dX1_worstToClose_9 : decode cX1_worstToClose 9 = .ok (.ireturn, 1) := by decide +kernel
theorem dX1_worstToClose_10 : decode cX1_worstToClose 10 = .ok (.iconst (-1), 1) := by decide +kernel
theorem dX1_worstToClose_11 : decode cX1_worstToClose 11 = .ok (.istore_n 2, 1) := by decide +kernel
theorem dX1_worstToClose_12 : decode cX1_worstToClose 12 = .ok (.iconst (-1), 1) := by decide +kernel
theorem dX1_worstToClose_13 : decode cX1_worstToClose 13 = .ok (.istore_n 3, 1) := by decide +kernel
theorem dX1_worstToClose_14 : decode cX1_worstToClose 14 = .ok (.iconst 0, 1) := by decide +kernel
theorem dX1_worstToClose_15 : decode cX1_worstToClose 15 = .ok (.istore 4, 2) := by decide +kernel
theorem dX1_worstToClose_17 : decode cX1_worstToClose 17 = .ok (.iload 4, 2) := by decide +kernel
theorem dX1_worstToClose_19 : decode cX1_worstToClose 19 = .ok (.aload_n 0, 1) := by decide +kernel
theorem dX1_worstToClose_20 : decode cX1_worstToClose 20 = .ok (.getfield 15, 3) := by decide +kernel
theorem dX1_worstToClose_23 : decode cX1_worstToClose 23 = .ok (.getfield 93, 3) := by decide +kernel
theorem dX1_worstToClose_26 : decode cX1_worstToClose 26 = .ok (.if_icmp .ge 58, 3) := by decide +kernel
theorem dX1_worstToClose_29 : decode cX1_worstToClose 29 = .ok (.iload 4, 2) := by decide +kernel
theorem dX1_worstToClose_31 : decode cX1_worstToClose 31 = .ok (.iload_n 1, 1) := by decide +kernel
theorem dX1_worstToClose_32 : decode cX1_worstToClose 32 = .ok (.invokestatic 96, 3) := by decide +kernel
theorem dX1_worstToClose_35 : decode cX1_worstToClose 35 = .ok (.ifCond .eq 43, 3) := by decide +kernel
theorem dX1_worstToClose_38 : decode cX1_worstToClose 38 = .ok (.aload_n 0, 1) := by decide +kernel
theorem dX1_worstToClose_39 : decode cX1_worstToClose 39 = .ok (.getfield 19, 3) := by decide +kernel
theorem dX1_worstToClose_42 : decode cX1_worstToClose 42 = .ok (.getfield 27, 3) := by decide +kernel
theorem dX1_worstToClose_45 : decode cX1_worstToClose 45 = .ok (.iload_n 1, 1) := by decide +kernel
theorem dX1_worstToClose_46 : decode cX1_worstToClose 46 = .ok (.iconst 1, 1) := by decide +kernel
theorem dX1_worstToClose_47 : decode cX1_worstToClose 47 = .ok (.iload 4, 2) := by decide +kernel
theorem dX1_worstToClose_49 : decode cX1_worstToClose 49 = .ok (.ishl, 1) := by decide +kernel
theorem dX1_worstToClose_50 : decode cX1_worstToClose 50 = .ok (.iconst (-1), 1) := by decide +kernel
theorem dX1_worstToClose_51 : decode cX1_worstToClose 51 = .ok (.ixor, 1) := by decide +kernel
theorem dX1_worstToClose_52 : decode cX1_worstToClose 52 = .ok (.iand, 1) := by decide +kernel
theorem dX1_worstToClose_53 : decode cX1_worstToClose 53 = .ok (.iaload, 1) := by decide +kernel
theorem dX1_worstToClose_54 : decode cX1_worstToClose 54 = .ok (.iload_n 3, 1) := by decide +kernel
theorem dX1_worstToClose_55 : decode cX1_worstToClose 55 = .ok (.if_icmp .le 23, 3) := by decide +kernel
theorem dX1_worstToClose_58 : decode cX1_worstToClose 58 = .ok (.iload 4, 2) := by decide +kernel
theorem dX1_worstToClose_60 : decode cX1_worstToClose 60 = .ok (.istore_n 2, 1) := by decide +kernel
theorem dX1_worstToClose_61 : decode cX1_worstToClose 61 = .ok (.aload_n 0, 1) := by decide +kernel
theorem dX1_worstToClose_62 : decode cX1_worstToClose 62 = .ok (.getfield 19, 3) := by decide +kernel
theorem dX1_worstToClose_65 : decode cX1_worstToClose 65 = .ok (.getfield 27, 3) := by decide +kernel
theorem dX1_worstToClose_68 : decode cX1_worstToClose 68 = .ok (.iload_n 1, 1) := by decide +kernel
theorem dX1_worstToClose_69 : decode cX1_worstToClose 69 = .ok (.iconst 1, 1) := by decide +kernel
theorem dX1_worstToClose_70 : decode cX1_worstToClose 70 = .ok (.iload 4, 2) := by decide +kernel
theorem dX1_worstToClose_72 : decode cX1_worstToClose 72 = .ok (.ishl, 1) := by decide +kernel
theorem dX1_worstToClose_73 : decode cX1_worstToClose 73 = .ok (.iconst (-1), 1) := by decide +kernel
theorem dX1_worstToClose_74 : decode cX1_worstToClose 74 = .ok (.ixor, 1) := by decide +kernel
theorem dX1_worstToClose_75 : decode cX1_worstToClose 75 = .ok (.iand, 1) := by decide +kernel
theorem dX1_worstToClose_76 : decode cX1_worstToClose 76 = .ok (.iaload, 1) := by decide +kernel
theorem dX1_worstToClose_77 : decode cX1_worstToClose 77 = .ok (.istore_n 3, 1) := by decide +kernel
theorem dX1_worstToClose_78 : decode cX1_worstToClose 78 = .ok (.iinc 4 1, 3) := by decide +kernel
theorem dX1_worstToClose_81 : decode cX1_worstToClose 81 = .ok (.goto (-64), 3) := by decide +kernel
theorem dX1_worstToClose_84 : decode cX1_worstToClose 84 = .ok (.iload_n 2, 1) := by decide +kernel
theorem dX1_worstToClose_85 : decode cX1_worstToClose 85 = .ok (.ireturn, 1) := by decide +kernel
set_option maxRecDepth 20000 in
theorem ggX1_rivalOf_X1_worstRival : GoodIn wsX1_rivalOf wsX1_worstRival := goodIn_r _ [5, 6, 7, 8, 9, 10, 11, 12, 13, 14, 4, 15, 16, 17, 18, 19, 20, 21, 22, 23, 24, 25, 26, 27, 28, 29, 30, 31, 32, 33, 34, 35, 36, 37, 38, 39, 40, 41, 42, 43, 44, 45, 46, 47, 48, 49] (by decide +kernel) (by decide +kernel)
set_option maxRecDepth 20000 in
theorem gX1_rivalOf_X1_worstRival : GoodIn wsX1_rivalOf (wsV RX1 100 RX1 yX1_worstRival wsX1_worstRival) := goodIn_app (goodIn_of _ (by decide +kernel)) ggX1_rivalOf_X1_worstRival
set_option maxRecDepth 20000 in
theorem ggX1_rivalOf_X1_takenBy : GoodIn wsX1_rivalOf wsX1_takenBy := goodIn_r _ [15, 6, 16, 17, 18, 19, 20, 21, 10, 22, 23, 24, 25, 26, 27, 28, 29, 30, 31, 32, 33, 34, 35, 36, 37, 38, 39, 40, 41, 42, 43, 44, 45, 46, 47, 48, 49] (by decide +kernel) (by decide +kernel)
set_option maxRecDepth 20000 in
theorem gX1_rivalOf_X1_takenBy : GoodIn wsX1_rivalOf (wsV RX1 103 RX1 yX1_takenBy wsX1_takenBy) := goodIn_app (goodIn_of _ (by decide +kernel)) ggX1_rivalOf_X1_takenBy
theorem dX1_rivalOf_0 : decode cX1_rivalOf 0 = .ok (.iload_n 1, 1) := by decide +kernel
theorem dX1_rivalOf_1 : decode cX1_rivalOf 1 = .ok (.ifCond .ne 5, 3) := by decide +kernel
theorem dX1_rivalOf_4 : decode cX1_rivalOf 4 = .ok (.iconst (-1), 1) := by decide +kernel
theorem dX1_rivalOf_5 : decode cX1_rivalOf 5 = .ok (.ireturn, 1) := by decide +kernel
theorem dX1_rivalOf_6 : decode cX1_rivalOf 6 = .ok (.aload_n 0, 1) := by decide +kernel
theorem dX1_rivalOf_7 : decode cX1_rivalOf 7 = .ok (.iload_n 1, 1) := by decide +kernel
theorem dX1_rivalOf_8 : decode cX1_rivalOf 8 = .ok (.invokevirtual 100, 3) := by decide +kernel
theorem dX1_rivalOf_11 : decode cX1_rivalOf 11 = .ok (.istore_n 2, 1) := by decide +kernel
theorem dX1_rivalOf_12 : decode cX1_rivalOf 12 = .ok (.iload_n 2, 1) := by decide +kernel
theorem dX1_rivalOf_13 : decode cX1_rivalOf 13 = .ok (.iconst (-1), 1) := by decide +kernel
theorem dX1_rivalOf_14 : decode cX1_rivalOf 14 = .ok (.if_icmp .ne 7, 3) := by decide +kernel
theorem dX1_rivalOf_17 : decode cX1_rivalOf 17 = .ok (.iconst 0, 1) := by decide +kernel
theorem dX1_rivalOf_18 : decode cX1_rivalOf 18 = .ok (.goto 9, 3) := by decide +kernel
theorem dX1_rivalOf_21 : decode cX1_rivalOf 21 = .ok (.aload_n 0, 1) := by decide +kernel
theorem dX1_rivalOf_22 : decode cX1_rivalOf 22 = .ok (.iload_n 2, 1) := by decide +kernel
theorem dX1_rivalOf_23 : decode cX1_rivalOf 23 = .ok (.iload_n 1, 1) := by decide +kernel
theorem dX1_rivalOf_24 : decode cX1_rivalOf 24 = .ok (.invokevirtual 103, 3) := by decide +kernel
theorem dX1_rivalOf_27 : decode cX1_rivalOf 27 = .ok (.ireturn, 1) := by decide +kernel
set_option maxRecDepth 20000 in
theorem ggX1_worstRival_X5_isIn : GoodIn wsX1_worstRival wsX5_isIn := goodIn_r _ [6] (by decide +kernel) (by decide +kernel)
set_option maxRecDepth 20000 in
theorem gX1_worstRival_X5_isIn : GoodIn wsX1_worstRival (va_wsS RX1 96 yX5_isIn wsX5_isIn) := goodIn_app (goodIn_of _ (by decide +kernel)) ggX1_worstRival_X5_isIn
set_option maxRecDepth 20000 in
theorem ggX1_worstRival_X1_takenBy : GoodIn wsX1_worstRival wsX1_takenBy := goodIn_r _ [11, 1, 12, 13, 14, 15, 16, 17, 5, 18, 19, 20, 21, 22, 23, 24, 25, 26, 27, 28, 29, 30, 31, 32, 33, 34, 35, 36, 37, 38, 39, 40, 41, 42, 43, 44, 45] (by decide +kernel) (by decide +kernel)
set_option maxRecDepth 20000 in
theorem gX1_worstRival_X1_takenBy : GoodIn wsX1_worstRival (wsV RX1 103 RX1 yX1_takenBy wsX1_takenBy) := goodIn_app (goodIn_of _ (by decide +kernel)) ggX1_worstRival_X1_takenBy
theorem dX1_worstRival_0 : decode cX1_worstRival 0 = .ok (.iload_n 1, 1) := by decide +kernel
theorem dX1_worstRival_1 : decode cX1_worstRival 1 = .ok (.ifCond .ne 5, 3) := by decide +kernel
theorem dX1_worstRival_4 : decode cX1_worstRival 4 = .ok (.iconst (-1), 1) := by decide +kernel
theorem dX1_worstRival_5 : decode cX1_worstRival 5 = .ok (.ireturn, 1) := by decide +kernel
theorem dX1_worstRival_6 : decode cX1_worstRival 6 = .ok (.iconst (-1), 1) := by decide +kernel
theorem dX1_worstRival_7 : decode cX1_worstRival 7 = .ok (.istore_n 2, 1) := by decide +kernel
theorem dX1_worstRival_8 : decode cX1_worstRival 8 = .ok (.iconst (-1), 1) := by decide +kernel
theorem dX1_worstRival_9 : decode cX1_worstRival 9 = .ok (.istore_n 3, 1) := by decide +kernel
theorem dX1_worstRival_10 : decode cX1_worstRival 10 = .ok (.iconst 0, 1) := by decide +kernel
theorem dX1_worstRival_11 : decode cX1_worstRival 11 = .ok (.istore 4, 2) := by decide +kernel
theorem dX1_worstRival_13 : decode cX1_worstRival 13 = .ok (.iload 4, 2) := by decide +kernel
theorem dX1_worstRival_15 : decode cX1_worstRival 15 = .ok (.aload_n 0, 1) := by decide +kernel
theorem dX1_worstRival_16 : decode cX1_worstRival 16 = .ok (.getfield 15, 3) := by decide +kernel
theorem dX1_worstRival_19 : decode cX1_worstRival 19 = .ok (.getfield 93, 3) := by decide +kernel
theorem dX1_worstRival_22 : decode cX1_worstRival 22 = .ok (.if_icmp .ge 43, 3) := by decide +kernel
theorem dX1_worstRival_25 : decode cX1_worstRival 25 = .ok (.iload 4, 2) := by decide +kernel
theorem dX1_worstRival_27 : decode cX1_worstRival 27 = .ok (.iload_n 1, 1) := by decide +kernel
theorem dX1_worstRival_28 : decode cX1_worstRival 28 = .ok (.invokestatic 96, 3) := by decide +kernel
theorem dX1_worstRival_31 : decode cX1_worstRival 31 = .ok (.ifCond .eq 7, 3) := by decide +kernel
theorem dX1_worstRival_34 : decode cX1_worstRival 34 = .ok (.iconst (-1), 1) := by decide +kernel
theorem dX1_worstRival_35 : decode cX1_worstRival 35 = .ok (.goto 10, 3) := by decide +kernel
theorem dX1_worstRival_38 : decode cX1_worstRival 38 = .ok (.aload_n 0, 1) := by decide +kernel
theorem dX1_worstRival_39 : decode cX1_worstRival 39 = .ok (.iload 4, 2) := by decide +kernel
theorem dX1_worstRival_41 : decode cX1_worstRival 41 = .ok (.iload_n 1, 1) := by decide +kernel
theorem dX1_worstRival_42 : decode cX1_worstRival 42 = .ok (.invokevirtual 103, 3) := by decide +kernel
theorem dX1_worstRival_45 : decode cX1_worstRival 45 = .ok (.istore 5, 2) := by decide +kernel
theorem dX1_worstRival_47 : decode cX1_worstRival 47 = .ok (.iload 5, 2) := by decide +kernel
theorem dX1_worstRival_49 : decode cX1_worstRival 49 = .ok (.iload_n 3, 1) := by decide +kernel
theorem dX1_worstRival_50 : decode cX1_worstRival 50 = .ok (.if_icmp .le 9, 3) := by decide +kernel
theorem dX1_worstRival_53 : decode cX1_worstRival 53 = .ok (.iload 4, 2) := by decide +kernel
theorem dX1_worstRival_55 : decode cX1_worstRival 55 = .ok (.istore_n 2, 1) := by decide +kernel
theorem dX1_worstRival_56 : decode cX1_worstRival 56 = .ok (.iload 5, 2) := by decide +kernel
theorem dX1_worstRival_58 : decode cX1_worstRival 58 = .ok (.istore_n 3, 1) := by decide +kernel
theorem dX1_worstRival_59 : decode cX1_worstRival 59 = .ok (.iinc 4 1, 3) := by decide +kernel
theorem dX1_worstRival_62 : decode cX1_worstRival 62 = .ok (.goto (-49), 3) := by decide +kernel
theorem dX1_worstRival_65 : decode cX1_worstRival 65 = .ok (.iload_n 2, 1) := by decide +kernel
theorem dX1_worstRival_66 : decode cX1_worstRival 66 = .ok (.ireturn, 1) := by decide +kernel
set_option maxRecDepth 20000 in
theorem ggX1_takenBy_X5_wayOf : GoodIn wsX1_takenBy wsX5_wayOf := goodIn_r _ [9, 10, 22, 23, 24, 25, 26, 27, 28, 29, 30, 31] (by decide +kernel) (by decide +kernel)
set_option maxRecDepth 20000 in
theorem gX1_takenBy_X5_wayOf : GoodIn wsX1_takenBy (wsV RX1 106 RX5 yX5_wayOf wsX5_wayOf) := goodIn_app (goodIn_of _ (by decide +kernel)) ggX1_takenBy_X5_wayOf
set_option maxRecDepth 20000 in
theorem ggX1_takenBy_X6_nearWay : GoodIn wsX1_takenBy wsX6_nearWay := goodIn_r _ [15, 16, 32, 33, 34, 35, 36] (by decide +kernel) (by decide +kernel)
set_option maxRecDepth 20000 in
theorem gX1_takenBy_X6_nearWay : GoodIn wsX1_takenBy (wsV RX1 68 RX6 yX6_nearWay wsX6_nearWay) := goodIn_app (goodIn_of _ (by decide +kernel)) ggX1_takenBy_X6_nearWay
theorem dX1_takenBy_0 : decode cX1_takenBy 0 = .ok (.iconst 0, 1) := by decide +kernel
theorem dX1_takenBy_1 : decode cX1_takenBy 1 = .ok (.istore_n 3, 1) := by decide +kernel
theorem dX1_takenBy_2 : decode cX1_takenBy 2 = .ok (.iconst 0, 1) := by decide +kernel
theorem dX1_takenBy_3 : decode cX1_takenBy 3 = .ok (.istore 4, 2) := by decide +kernel
theorem dX1_takenBy_5 : decode cX1_takenBy 5 = .ok (.iload 4, 2) := by decide +kernel
theorem dX1_takenBy_7 : decode cX1_takenBy 7 = .ok (.aload_n 0, 1) := by decide +kernel
theorem dX1_takenBy_8 : decode cX1_takenBy 8 = .ok (.getfield 15, 3) := by decide +kernel
theorem dX1_takenBy_11 : decode cX1_takenBy 11 = .ok (.getfield 62, 3) := by decide +kernel
theorem dX1_takenBy_14 : decode cX1_takenBy 14 = .ok (.if_icmp .ge 49, 3) := by decide +kernel
theorem dX1_takenBy_17 : decode cX1_takenBy 17 = .ok (.iload_n 3, 1) := by decide +kernel
theorem dX1_takenBy_18 : decode cX1_takenBy 18 = .ok (.aload_n 0, 1) := by decide +kernel
theorem dX1_takenBy_19 : decode cX1_takenBy 19 = .ok (.getfield 15, 3) := by decide +kernel
theorem dX1_takenBy_22 : decode cX1_takenBy 22 = .ok (.iload_n 1, 1) := by decide +kernel
theorem dX1_takenBy_23 : decode cX1_takenBy 23 = .ok (.iload 4, 2) := by decide +kernel
theorem dX1_takenBy_25 : decode cX1_takenBy 25 = .ok (.invokevirtual 106, 3) := by decide +kernel
theorem dX1_takenBy_28 : decode cX1_takenBy 28 = .ok (.aload_n 0, 1) := by decide +kernel
theorem dX1_takenBy_29 : decode cX1_takenBy 29 = .ok (.getfield 19, 3) := by decide +kernel
theorem dX1_takenBy_32 : decode cX1_takenBy 32 = .ok (.iload_n 2, 1) := by decide +kernel
theorem dX1_takenBy_33 : decode cX1_takenBy 33 = .ok (.iload 4, 2) := by decide +kernel
theorem dX1_takenBy_35 : decode cX1_takenBy 35 = .ok (.invokevirtual 68, 3) := by decide +kernel
theorem dX1_takenBy_38 : decode cX1_takenBy 38 = .ok (.if_icmp .ge 16, 3) := by decide +kernel
theorem dX1_takenBy_41 : decode cX1_takenBy 41 = .ok (.aload_n 0, 1) := by decide +kernel
theorem dX1_takenBy_42 : decode cX1_takenBy 42 = .ok (.getfield 15, 3) := by decide +kernel
theorem dX1_takenBy_45 : decode cX1_takenBy 45 = .ok (.getfield 79, 3) := by decide +kernel
theorem dX1_takenBy_48 : decode cX1_takenBy 48 = .ok (.iload 4, 2) := by decide +kernel
theorem dX1_takenBy_50 : decode cX1_takenBy 50 = .ok (.iaload, 1) := by decide +kernel
theorem dX1_takenBy_51 : decode cX1_takenBy 51 = .ok (.goto 4, 3) := by decide +kernel
theorem dX1_takenBy_54 : decode cX1_takenBy 54 = .ok (.iconst 0, 1) := by decide +kernel
theorem dX1_takenBy_55 : decode cX1_takenBy 55 = .ok (.iadd, 1) := by decide +kernel
theorem dX1_takenBy_56 : decode cX1_takenBy 56 = .ok (.istore_n 3, 1) := by decide +kernel
theorem dX1_takenBy_57 : decode cX1_takenBy 57 = .ok (.iinc 4 1, 3) := by decide +kernel
theorem dX1_takenBy_60 : decode cX1_takenBy 60 = .ok (.goto (-55), 3) := by decide +kernel
theorem dX1_takenBy_63 : decode cX1_takenBy 63 = .ok (.iload_n 3, 1) := by decide +kernel
theorem dX1_takenBy_64 : decode cX1_takenBy 64 = .ok (.ireturn, 1) := by decide +kernel
set_option maxRecDepth 20000 in
theorem ggX1_hallFor_X7_fillingOf : GoodIn wsX1_hallFor wsX7_fillingOf := goodIn_r _ [9, 10, 11, 12, 13, 14, 15, 8, 16, 17, 18, 19, 20, 21, 22, 23, 24, 25, 26, 27, 28, 29, 30, 31, 32, 33, 34, 35, 36, 37, 38, 39, 40, 41, 42, 43, 44, 45, 46, 47, 48, 49, 50, 51, 52, 53, 54, 55, 56, 57, 58, 59, 60, 61, 62, 63, 64, 65, 66, 67, 68, 69, 70, 71, 72, 73, 74, 75, 76, 77, 78, 79, 80, 81, 82, 83, 84, 85, 86, 87, 88, 89, 90, 91, 92, 93, 94, 95, 117, 118, 119, 120, 121, 122, 123, 124, 125, 126, 107, 108, 109, 110, 111, 112, 113, 114, 115, 116, 127, 128, 129, 130, 131] (by decide +kernel) (by decide +kernel)
set_option maxRecDepth 20000 in
theorem gX1_hallFor_X7_fillingOf : GoodIn wsX1_hallFor (wsV RX1 40 RX7 yX7_fillingOf wsX7_fillingOf) := goodIn_app (goodIn_of _ (by decide +kernel)) ggX1_hallFor_X7_fillingOf
set_option maxRecDepth 20000 in
theorem ggX1_hallFor_X7_hallIn : GoodIn wsX1_hallFor wsX7_hallIn := goodIn_r _ [98, 20, 99, 37, 38, 8, 39] (by decide +kernel) (by decide +kernel)
set_option maxRecDepth 20000 in
theorem gX1_hallFor_X7_hallIn : GoodIn wsX1_hallFor (va_wsS RX1 109 yX7_hallIn wsX7_hallIn) := goodIn_app (goodIn_of _ (by decide +kernel)) ggX1_hallFor_X7_hallIn
set_option maxRecDepth 20000 in
theorem ggX1_hallFor_X6_nearHall : GoodIn wsX1_hallFor wsX6_nearHall := goodIn_r _ [54, 55, 56, 57, 58, 33, 59, 60, 61, 62, 63, 36, 64, 65, 66, 53, 67, 68, 127, 128, 129, 130, 131, 107, 108, 109, 110, 111, 112, 113, 114, 115, 116] (by decide +kernel) (by decide +kernel)
set_option maxRecDepth 20000 in
theorem gX1_hallFor_X6_nearHall : GoodIn wsX1_hallFor (wsV RX1 113 RX6 yX6_nearHall wsX6_nearHall) := goodIn_app (goodIn_of _ (by decide +kernel)) ggX1_hallFor_X6_nearHall
set_option maxRecDepth 20000 in
theorem ggX1_hallFor_X5_tripOf : GoodIn wsX1_hallFor wsX5_tripOf := goodIn_r _ [34, 35, 36, 107, 108, 109, 110, 111, 112, 113, 114, 115, 116] (by decide +kernel) (by decide +kernel)
set_option maxRecDepth 20000 in
theorem gX1_hallFor_X5_tripOf : GoodIn wsX1_hallFor (wsV RX1 116 RX5 yX5_tripOf wsX5_tripOf) := goodIn_app (goodIn_of _ (by decide +kernel)) ggX1_hallFor_X5_tripOf
theorem dX1_hallFor_0 : decode cX1_hallFor 0 = .ok (.iload_n 1, 1) := by decide +kernel
theorem dX1_hallFor_1 : decode cX1_hallFor 1 = .ok (.iconst 3, 1) := by decide +kernel
theorem dX1_hallFor_2 : decode cX1_hallFor 2 = .ok (.if_icmp .ne 16, 3) := by decide +kernel
theorem dX1_hallFor_5 : decode cX1_hallFor 5 = .ok (.aload_n 0, 1) := by decide +kernel
theorem dX1_hallFor_6 : decode cX1_hallFor 6 = .ok (.getfield 23, 3) := by decide +kernel
theorem dX1_hallFor_9 : decode cX1_hallFor 9 = .ok (.iload_n 2, 1) := by decide +kernel
theorem dX1_hallFor_10 : decode cX1_hallFor 10 = .ok (.invokevirtual 40, 3) := by decide +kernel
theorem dX1_hallFor_13 : decode cX1_hallFor 13 = .ok (.iload_n 3, 1) := by decide +kernel
theorem dX1_hallFor_14 : decode cX1_hallFor 14 = .ok (.invokestatic 109, 3) := by decide +kernel
theorem dX1_hallFor_17 : decode cX1_hallFor 17 = .ok (.ireturn, 1) := by decide +kernel
theorem dX1_hallFor_18 : decode cX1_hallFor 18 = .ok (.aload_n 0, 1) := by decide +kernel
theorem dX1_hallFor_19 : decode cX1_hallFor 19 = .ok (.getfield 19, 3) := by decide +kernel
theorem dX1_hallFor_22 : decode cX1_hallFor 22 = .ok (.iload_n 2, 1) := by decide +kernel
theorem dX1_hallFor_23 : decode cX1_hallFor 23 = .ok (.iload_n 3, 1) := by decide +kernel
theorem dX1_hallFor_24 : decode cX1_hallFor 24 = .ok (.invokevirtual 113, 3) := by decide +kernel
theorem dX1_hallFor_27 : decode cX1_hallFor 27 = .ok (.istore 4, 2) := by decide +kernel
theorem dX1_hallFor_29 : decode cX1_hallFor 29 = .ok (.iload_n 1, 1) := by decide +kernel
theorem dX1_hallFor_30 : decode cX1_hallFor 30 = .ok (.iconst 4, 1) := by decide +kernel
theorem dX1_hallFor_31 : decode cX1_hallFor 31 = .ok (.if_icmp .ne 33, 3) := by decide +kernel
theorem dX1_hallFor_34 : decode cX1_hallFor 34 = .ok (.iload 4, 2) := by decide +kernel
theorem dX1_hallFor_36 : decode cX1_hallFor 36 = .ok (.iconst (-1), 1) := by decide +kernel
theorem dX1_hallFor_37 : decode cX1_hallFor 37 = .ok (.if_icmp .eq 27, 3) := by decide +kernel
theorem dX1_hallFor_40 : decode cX1_hallFor 40 = .ok (.aload_n 0, 1) := by decide +kernel
theorem dX1_hallFor_41 : decode cX1_hallFor 41 = .ok (.getfield 15, 3) := by decide +kernel
theorem dX1_hallFor_44 : decode cX1_hallFor 44 = .ok (.getfield 76, 3) := by decide +kernel
theorem dX1_hallFor_47 : decode cX1_hallFor 47 = .ok (.iload_n 3, 1) := by decide +kernel
theorem dX1_hallFor_48 : decode cX1_hallFor 48 = .ok (.iaload, 1) := by decide +kernel
theorem dX1_hallFor_49 : decode cX1_hallFor 49 = .ok (.aload_n 0, 1) := by decide +kernel
theorem dX1_hallFor_50 : decode cX1_hallFor 50 = .ok (.getfield 15, 3) := by decide +kernel
theorem dX1_hallFor_53 : decode cX1_hallFor 53 = .ok (.iload 4, 2) := by decide +kernel
theorem dX1_hallFor_55 : decode cX1_hallFor 55 = .ok (.iload_n 3, 1) := by decide +kernel
theorem dX1_hallFor_56 : decode cX1_hallFor 56 = .ok (.invokevirtual 116, 3) := by decide +kernel
theorem dX1_hallFor_59 : decode cX1_hallFor 59 = .ok (.if_icmp .ge 5, 3) := by decide +kernel
theorem dX1_hallFor_62 : decode cX1_hallFor 62 = .ok (.iconst (-1), 1) := by decide +kernel
theorem dX1_hallFor_63 : decode cX1_hallFor 63 = .ok (.ireturn, 1) := by decide +kernel
theorem dX1_hallFor_64 : decode cX1_hallFor 64 = .ok (.iload 4, 2) := by decide +kernel
theorem dX1_hallFor_66 : decode cX1_hallFor 66 = .ok (.ireturn, 1) := by decide +kernel
set_option maxRecDepth 20000 in
theorem ggX1_seekBest_X5_everyHall : GoodIn wsX1_seekBest wsX5_everyHall := goodIn_r _ [8, 9, 172, 173, 174, 175, 176, 177, 178, 179, 180, 181] (by decide +kernel) (by decide +kernel)
set_option maxRecDepth 20000 in
theorem gX1_seekBest_X5_everyHall : GoodIn wsX1_seekBest (wsV RX1 122 RX5 yX5_everyHall wsX5_everyHall) := goodIn_app (goodIn_of _ (by decide +kernel)) ggX1_seekBest_X5_everyHall
set_option maxRecDepth 20000 in
theorem ggX1_seekBest_J6_bitCount_0f7a4 : GoodIn wsX1_seekBest wsJ6_bitCount_0f7a4 := goodIn_r _ [13, 14, 15, 16] (by decide +kernel) (by decide +kernel)
set_option maxRecDepth 20000 in
theorem gX1_seekBest_J6_bitCount_0f7a4 : GoodIn wsX1_seekBest (va_wsS RX1 88 yJ6_bitCount_0f7a4 wsJ6_bitCount_0f7a4) := goodIn_app (goodIn_of _ (by decide +kernel)) ggX1_seekBest_J6_bitCount_0f7a4
set_option maxRecDepth 20000 in
theorem ggX1_seekBest_X1_costOf : GoodIn wsX1_seekBest wsX1_costOf := goodIn_r _ [21, 22, 23, 24, 25, 26, 27, 20, 28, 2, 29, 30, 31, 32, 33, 34, 35, 36, 37, 38, 39, 40, 41, 42, 43, 44, 45, 46, 47, 48, 49, 50, 51, 52, 53, 54, 55, 56, 57, 58, 59, 60, 61, 62, 63, 64, 65, 66, 67, 68, 69, 70, 71, 72, 7, 73, 74, 75, 76, 77, 78, 79, 80, 81, 82, 83, 84, 85, 86, 87, 88, 89, 90, 91, 92, 93, 94, 95, 96, 97, 98, 99, 100, 101, 102, 103, 104, 105, 106, 107, 108, 109, 110, 111, 112, 113, 114, 115, 116, 117, 118, 119, 120, 121, 122, 123, 124, 125, 126, 127, 128, 129, 130, 131, 132, 133, 134, 135, 136, 137, 138, 139, 140, 141, 142, 143, 144, 145, 146, 147, 148, 149, 10, 11, 12, 13, 14, 15, 16, 150, 151, 152, 153, 154, 155, 156, 157, 158, 159, 160, 161, 162, 163, 167, 168, 169, 170, 171, 182, 183, 184, 185, 186, 172, 173, 174, 175, 176, 177, 178, 179, 180, 181, 187, 188, 189, 190, 191, 192, 193, 194, 195, 196] (by decide +kernel) (by decide +kernel)
set_option maxRecDepth 20000 in
theorem gX1_seekBest_X1_costOf : GoodIn wsX1_seekBest (wsV RX1 126 RX1 yX1_costOf wsX1_costOf) := goodIn_app (goodIn_of _ (by decide +kernel)) ggX1_seekBest_X1_costOf
set_option maxRecDepth 20000 in
theorem ggX1_seekBest_X1_isLess : GoodIn wsX1_seekBest wsX1_isLess := goodIn_r _ [166] (by decide +kernel) (by decide +kernel)
set_option maxRecDepth 20000 in
theorem gX1_seekBest_X1_isLess : GoodIn wsX1_seekBest (va_wsS RX1 129 yX1_isLess wsX1_isLess) := goodIn_app (goodIn_of _ (by decide +kernel)) ggX1_seekBest_X1_isLess
theorem dX1_seekBest_0 : decode cX1_seekBest 0 = .ok (.aload_n 0, 1) := by decide +kernel
theorem dX1_seekBest_1 : decode cX1_seekBest 1 = .ok (.iconst (-1), 1) := by decide +kernel
theorem dX1_seekBest_2 : decode cX1_seekBest 2 = .ok (.putfield 119, 3) := by decide +kernel
theorem dX1_seekBest_5 : decode cX1_seekBest 5 = .ok (.iconst 0, 1) := by decide +kernel
theorem dX1_seekBest_6 : decode cX1_seekBest 6 = .ok (.istore_n 3, 1) := by decide +kernel
theorem dX1_seekBest_7 : decode cX1_seekBest 7 = .ok (.iload_n 3, 1) := by decide +kernel
theorem dX1_seekBest_8 : decode cX1_seekBest 8 = .ok (.aload_n 0, 1) := by decide +kernel
theorem dX1_seekBest_9 : decode cX1_seekBest 9 = .ok (.getfield 15, 3) := by decide +kernel
theorem dX1_seekBest_12 : decode cX1_seekBest 12 = .ok (.invokevirtual 122, 3) := by decide +kernel
theorem dX1_seekBest_15 : decode cX1_seekBest 15 = .ok (.if_icmp .gt 76, 3) := by decide +kernel
theorem dX1_seekBest_18 : decode cX1_seekBest 18 = .ok (.iload_n 2, 1) := by decide +kernel
theorem dX1_seekBest_19 : decode cX1_seekBest 19 = .ok (.iconst (-1), 1) := by decide +kernel
theorem dX1_seekBest_20 : decode cX1_seekBest 20 = .ok (.if_icmp .eq 11, 3) := by decide +kernel
theorem dX1_seekBest_23 : decode cX1_seekBest 23 = .ok (.iload_n 3, 1) := by decide +kernel
theorem dX1_seekBest_24 : decode cX1_seekBest 24 = .ok (.invokestatic 88, 3) := by decide +kernel
theorem dX1_seekBest_27 : decode cX1_seekBest 27 = .ok (.iload_n 2, 1) := by decide +kernel
theorem dX1_seekBest_28 : decode cX1_seekBest 28 = .ok (.if_icmp .ne 7, 3) := by decide +kernel
theorem dX1_seekBest_31 : decode cX1_seekBest 31 = .ok (.iconst 1, 1) := by decide +kernel
theorem dX1_seekBest_32 : decode cX1_seekBest 32 = .ok (.goto 4, 3) := by decide +kernel
theorem dX1_seekBest_35 : decode cX1_seekBest 35 = .ok (.iconst 0, 1) := by decide +kernel
theorem dX1_seekBest_36 : decode cX1_seekBest 36 = .ok (.istore 4, 2) := by decide +kernel
theorem dX1_seekBest_38 : decode cX1_seekBest 38 = .ok (.aload_n 0, 1) := by decide +kernel
theorem dX1_seekBest_39 : decode cX1_seekBest 39 = .ok (.getfield 9, 3) := by decide +kernel
theorem dX1_seekBest_42 : decode cX1_seekBest 42 = .ok (.iload_n 3, 1) := by decide +kernel
theorem dX1_seekBest_43 : decode cX1_seekBest 43 = .ok (.iload 4, 2) := by decide +kernel
theorem dX1_seekBest_45 : decode cX1_seekBest 45 = .ok (.ifCond .eq 12, 3) := by decide +kernel
theorem dX1_seekBest_48 : decode cX1_seekBest 48 = .ok (.aload_n 0, 1) := by decide +kernel
theorem dX1_seekBest_49 : decode cX1_seekBest 49 = .ok (.iload_n 1, 1) := by decide +kernel
theorem dX1_seekBest_50 : decode cX1_seekBest 50 = .ok (.iload_n 3, 1) := by decide +kernel
theorem dX1_seekBest_51 : decode cX1_seekBest 51 = .ok (.invokevirtual 126, 3) := by decide +kernel
theorem dX1_seekBest_54 : decode cX1_seekBest 54 = .ok (.goto 4, 3) := by decide +kernel
theorem dX1_seekBest_57 : decode cX1_seekBest 57 = .ok (.iconst (-1), 1) := by decide +kernel
theorem dX1_seekBest_58 : decode cX1_seekBest 58 = .ok (.iastore, 1) := by decide +kernel
theorem dX1_seekBest_59 : decode cX1_seekBest 59 = .ok (.aload_n 0, 1) := by decide +kernel
theorem dX1_seekBest_60 : decode cX1_seekBest 60 = .ok (.getfield 9, 3) := by decide +kernel
theorem dX1_seekBest_63 : decode cX1_seekBest 63 = .ok (.iload_n 3, 1) := by decide +kernel
theorem dX1_seekBest_64 : decode cX1_seekBest 64 = .ok (.iaload, 1) := by decide +kernel
theorem dX1_seekBest_65 : decode cX1_seekBest 65 = .ok (.aload_n 0, 1) := by decide +kernel
theorem dX1_seekBest_66 : decode cX1_seekBest 66 = .ok (.getfield 119, 3) := by decide +kernel
theorem dX1_seekBest_69 : decode cX1_seekBest 69 = .ok (.invokestatic 129, 3) := by decide +kernel
theorem dX1_seekBest_72 : decode cX1_seekBest 72 = .ok (.ifCond .eq 13, 3) := by decide +kernel
theorem dX1_seekBest_75 : decode cX1_seekBest 75 = .ok (.aload_n 0, 1) := by decide +kernel
theorem dX1_seekBest_76 : decode cX1_seekBest 76 = .ok (.aload_n 0, 1) := by decide +kernel
theorem dX1_seekBest_77 : decode cX1_seekBest 77 = .ok (.getfield 9, 3) := by decide +kernel
theorem dX1_seekBest_80 : decode cX1_seekBest 80 = .ok (.iload_n 3, 1) := by decide +kernel
theorem dX1_seekBest_81 : decode cX1_seekBest 81 = .ok (.iaload, 1) := by decide +kernel
theorem dX1_seekBest_82 : decode cX1_seekBest 82 = .ok (.putfield 119, 3) := by decide +kernel
theorem dX1_seekBest_85 : decode cX1_seekBest 85 = .ok (.iinc 3 1, 3) := by decide +kernel
theorem dX1_seekBest_88 : decode cX1_seekBest 88 = .ok (.goto (-81), 3) := by decide +kernel
theorem dX1_seekBest_91 : decode cX1_seekBest 91 = .ok (.return_, 1) := by decide +kernel
theorem dX1_isLess_0 : decode cX1_isLess 0 = .ok (.iload_n 0, 1) := by decide +kernel
theorem dX1_isLess_1 : decode cX1_isLess 1 = .ok (.iconst (-1), 1) := by decide +kernel
theorem dX1_isLess_2 : decode cX1_isLess 2 = .ok (.if_icmp .eq 17, 3) := by decide +kernel
theorem dX1_isLess_5 : decode cX1_isLess 5 = .ok (.iload_n 1, 1) := by decide +kernel
theorem dX1_isLess_6 : decode cX1_isLess 6 = .ok (.iconst (-1), 1) := by decide +kernel
theorem dX1_isLess_7 : decode cX1_isLess 7 = .ok (.if_icmp .eq 8, 3) := by decide +kernel
theorem dX1_isLess_10 : decode cX1_isLess 10 = .ok (.iload_n 0, 1) := by decide +kernel
theorem dX1_isLess_11 : decode cX1_isLess 11 = .ok (.iload_n 1, 1) := by decide +kernel
theorem dX1_isLess_12 : decode cX1_isLess 12 = .ok (.if_icmp .ge 7, 3) := by decide +kernel
theorem dX1_isLess_15 : decode cX1_isLess 15 = .ok (.iconst 1, 1) := by decide +kernel
theorem dX1_isLess_16 : decode cX1_isLess 16 = .ok (.goto 4, 3) := by decide +kernel
theorem dX1_isLess_19 : decode cX1_isLess 19 = .ok (.iconst 0, 1) := by decide +kernel
theorem dX1_isLess_20 : decode cX1_isLess 20 = .ok (.ireturn, 1) := by decide +kernel
theorem dX1_isBest_0 : decode cX1_isBest 0 = .ok (.aload_n 0, 1) := by decide +kernel
theorem dX1_isBest_1 : decode cX1_isBest 1 = .ok (.getfield 119, 3) := by decide +kernel
theorem dX1_isBest_4 : decode cX1_isBest 4 = .ok (.iconst (-1), 1) := by decide +kernel
theorem dX1_isBest_5 : decode cX1_isBest 5 = .ok (.if_icmp .eq 20, 3) := by decide +kernel
theorem dX1_isBest_8 : decode cX1_isBest 8 = .ok (.aload_n 0, 1) := by decide +kernel
theorem dX1_isBest_9 : decode cX1_isBest 9 = .ok (.getfield 9, 3) := by decide +kernel
theorem dX1_isBest_12 : decode cX1_isBest 12 = .ok (.iload_n 1, 1) := by decide +kernel
theorem dX1_isBest_13 : decode cX1_isBest 13 = .ok (.iaload, 1) := by decide +kernel
theorem dX1_isBest_14 : decode cX1_isBest 14 = .ok (.aload_n 0, 1) := by decide +kernel
theorem dX1_isBest_15 : decode cX1_isBest 15 = .ok (.getfield 119, 3) := by decide +kernel
theorem dX1_isBest_18 : decode cX1_isBest 18 = .ok (.if_icmp .ne 7, 3) := by decide +kernel
theorem dX1_isBest_21 : decode cX1_isBest 21 = .ok (.iconst 1, 1) := by decide +kernel
theorem dX1_isBest_22 : decode cX1_isBest 22 = .ok (.goto 4, 3) := by decide +kernel
theorem dX1_isBest_25 : decode cX1_isBest 25 = .ok (.iconst 0, 1) := by decide +kernel
theorem dX1_isBest_26 : decode cX1_isBest 26 = .ok (.ireturn, 1) := by decide +kernel
set_option maxRecDepth 20000 in
theorem ggX1_bestUpTo_X1_isBest : GoodIn wsX1_bestUpTo wsX1_isBest := goodIn_r _ [5, 6, 7, 8, 9, 10, 11, 12] (by decide +kernel) (by decide +kernel)
set_option maxRecDepth 20000 in
theorem gX1_bestUpTo_X1_isBest : GoodIn wsX1_bestUpTo (wsV RX1 132 RX1 yX1_isBest wsX1_isBest) := goodIn_app (goodIn_of _ (by decide +kernel)) ggX1_bestUpTo_X1_isBest
theorem dX1_bestUpTo_0 : decode cX1_bestUpTo 0 = .ok (.iconst 0, 1) := by decide +kernel
theorem dX1_bestUpTo_1 : decode cX1_bestUpTo 1 = .ok (.istore_n 2, 1) := by decide +kernel
theorem dX1_bestUpTo_2 : decode cX1_bestUpTo 2 = .ok (.iconst 0, 1) := by decide +kernel
theorem dX1_bestUpTo_3 : decode cX1_bestUpTo 3 = .ok (.istore_n 3, 1) := by decide +kernel
theorem dX1_bestUpTo_4 : decode cX1_bestUpTo 4 = .ok (.iload_n 3, 1) := by decide +kernel
theorem dX1_bestUpTo_5 : decode cX1_bestUpTo 5 = .ok (.iload_n 1, 1) := by decide +kernel
theorem dX1_bestUpTo_6 : decode cX1_bestUpTo 6 = .ok (.if_icmp .gt 25, 3) := by decide +kernel
theorem dX1_bestUpTo_9 : decode cX1_bestUpTo 9 = .ok (.iload_n 2, 1) := by decide +kernel
theorem dX1_bestUpTo_10 : decode cX1_bestUpTo 10 = .ok (.aload_n 0, 1) := by decide +kernel
theorem dX1_bestUpTo_11 : decode cX1_bestUpTo 11 = .ok (.iload_n 3, 1) := by decide +kernel
theorem dX1_bestUpTo_12 : decode cX1_bestUpTo 12 = .ok (.invokevirtual 132, 3) := by decide +kernel
theorem dX1_bestUpTo_15 : decode cX1_bestUpTo 15 = .ok (.ifCond .eq 7, 3) := by decide +kernel
theorem dX1_bestUpTo_18 : decode cX1_bestUpTo 18 = .ok (.iconst 1, 1) := by decide +kernel
theorem dX1_bestUpTo_19 : decode cX1_bestUpTo 19 = .ok (.goto 4, 3) := by decide +kernel
theorem dX1_bestUpTo_22 : decode cX1_bestUpTo 22 = .ok (.iconst 0, 1) := by decide +kernel
theorem dX1_bestUpTo_23 : decode cX1_bestUpTo 23 = .ok (.iadd, 1) := by decide +kernel
theorem dX1_bestUpTo_24 : decode cX1_bestUpTo 24 = .ok (.istore_n 2, 1) := by decide +kernel
theorem dX1_bestUpTo_25 : decode cX1_bestUpTo 25 = .ok (.iinc 3 1, 3) := by decide +kernel
theorem dX1_bestUpTo_28 : decode cX1_bestUpTo 28 = .ok (.goto (-24), 3) := by decide +kernel
theorem dX1_bestUpTo_31 : decode cX1_bestUpTo 31 = .ok (.iload_n 2, 1) := by decide +kernel
theorem dX1_bestUpTo_32 : decode cX1_bestUpTo 32 = .ok (.ireturn, 1) := by decide +kernel
set_option maxRecDepth 20000 in
theorem ggX1_bestAt_X5_everyHall : GoodIn wsX1_bestAt wsX5_everyHall := goodIn_r _ [6, 7, 20, 21, 22, 23, 24, 25, 26, 27, 28, 29] (by decide +kernel) (by decide +kernel)
set_option maxRecDepth 20000 in
theorem gX1_bestAt_X5_everyHall : GoodIn wsX1_bestAt (wsV RX1 122 RX5 yX5_everyHall wsX5_everyHall) := goodIn_app (goodIn_of _ (by decide +kernel)) ggX1_bestAt_X5_everyHall
set_option maxRecDepth 20000 in
theorem ggX1_bestAt_X1_isBest : GoodIn wsX1_bestAt wsX1_isBest := goodIn_r _ [12, 13, 14, 15, 16, 17, 18, 19] (by decide +kernel) (by decide +kernel)
set_option maxRecDepth 20000 in
theorem gX1_bestAt_X1_isBest : GoodIn wsX1_bestAt (wsV RX1 132 RX1 yX1_isBest wsX1_isBest) := goodIn_app (goodIn_of _ (by decide +kernel)) ggX1_bestAt_X1_isBest
theorem dX1_bestAt_0 : decode cX1_bestAt 0 = .ok (.iconst 0, 1) := by decide +kernel
theorem dX1_bestAt_1 : decode cX1_bestAt 1 = .ok (.istore_n 2, 1) := by decide +kernel
theorem dX1_bestAt_2 : decode cX1_bestAt 2 = .ok (.iconst 0, 1) := by decide +kernel
theorem dX1_bestAt_3 : decode cX1_bestAt 3 = .ok (.istore_n 3, 1) := by decide +kernel
theorem dX1_bestAt_4 : decode cX1_bestAt 4 = .ok (.iload_n 3, 1) := by decide +kernel
theorem dX1_bestAt_5 : decode cX1_bestAt 5 = .ok (.aload_n 0, 1) := by decide +kernel
theorem dX1_bestAt_6 : decode cX1_bestAt 6 = .ok (.getfield 15, 3) := by decide +kernel
theorem dX1_bestAt_9 : decode cX1_bestAt 9 = .ok (.invokevirtual 122, 3) := by decide +kernel
theorem dX1_bestAt_12 : decode cX1_bestAt 12 = .ok (.if_icmp .gt 27, 3) := by decide +kernel
theorem dX1_bestAt_15 : decode cX1_bestAt 15 = .ok (.aload_n 0, 1) := by decide +kernel
theorem dX1_bestAt_16 : decode cX1_bestAt 16 = .ok (.iload_n 3, 1) := by decide +kernel
theorem dX1_bestAt_17 : decode cX1_bestAt 17 = .ok (.invokevirtual 132, 3) := by decide +kernel
theorem dX1_bestAt_20 : decode cX1_bestAt 20 = .ok (.ifCond .eq 13, 3) := by decide +kernel
theorem dX1_bestAt_23 : decode cX1_bestAt 23 = .ok (.iload_n 2, 1) := by decide +kernel
theorem dX1_bestAt_24 : decode cX1_bestAt 24 = .ok (.iload_n 1, 1) := by decide +kernel
theorem dX1_bestAt_25 : decode cX1_bestAt 25 = .ok (.if_icmp .ne 5, 3) := by decide +kernel
theorem dX1_bestAt_28 : decode cX1_bestAt 28 = .ok (.iload_n 3, 1) := by decide +kernel
theorem dX1_bestAt_29 : decode cX1_bestAt 29 = .ok (.ireturn, 1) := by decide +kernel
theorem dX1_bestAt_30 : decode cX1_bestAt 30 = .ok (.iinc 2 1, 3) := by decide +kernel
theorem dX1_bestAt_33 : decode cX1_bestAt 33 = .ok (.iinc 3 1, 3) := by decide +kernel
theorem dX1_bestAt_36 : decode cX1_bestAt 36 = .ok (.goto (-32), 3) := by decide +kernel
theorem dX1_bestAt_39 : decode cX1_bestAt 39 = .ok (.iconst (-1), 1) := by decide +kernel
theorem dX1_bestAt_40 : decode cX1_bestAt 40 = .ok (.ireturn, 1) := by decide +kernel
set_option maxRecDepth 20000 in
theorem ggX1_cheapestBeside_X5_everyHall : GoodIn wsX1_cheapestBeside wsX5_everyHall := goodIn_r _ [7, 8, 28, 29, 30, 31, 32, 33, 34, 35, 36, 37] (by decide +kernel) (by decide +kernel)
set_option maxRecDepth 20000 in
theorem gX1_cheapestBeside_X5_everyHall : GoodIn wsX1_cheapestBeside (wsV RX1 122 RX5 yX5_everyHall wsX5_everyHall) := goodIn_app (goodIn_of _ (by decide +kernel)) ggX1_cheapestBeside_X5_everyHall
set_option maxRecDepth 20000 in
theorem ggX1_cheapestBeside_X1_isBeside : GoodIn wsX1_cheapestBeside wsX1_isBeside := goodIn_r _ [12, 13, 14, 15, 16, 17, 18, 19] (by decide +kernel) (by decide +kernel)
set_option maxRecDepth 20000 in
theorem gX1_cheapestBeside_X1_isBeside : GoodIn wsX1_cheapestBeside (va_wsS RX1 136 yX1_isBeside wsX1_isBeside) := goodIn_app (goodIn_of _ (by decide +kernel)) ggX1_cheapestBeside_X1_isBeside
