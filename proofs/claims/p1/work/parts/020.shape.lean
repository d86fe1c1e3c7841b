/-! the cells of the two desks: 0 HallDesk; 1 + 9 j the plans (0 the present one); 82 Past; 84 Reach; 88 Rooming; 103 Costs; 105 Claims; 108 Heaps; 111 Line; 113 the reference -/
def hs_sh : List hd_K := [.inl (8, [some 1, some 82, some 84, some 88, some 103, some 105, some 108, some 111, none]),
  .inl (5, [none, none, some 2, some 3, some 4, some 5, some 6, some 7, some 8, some 9]),
  .inr (0, 8),
  .inr (0, 8),
  .inr (0, 8),
  .inr (0, 7),
  .inr (0, 7),
  .inr (0, 7),
  .inr (0, 7),
  .inr (0, 56),
  .inl (5, [none, none, some 11, some 12, some 13, some 14, some 15, some 16, some 17, some 18]),
  .inr (0, 8),
  .inr (0, 8),
  .inr (0, 8),
  .inr (0, 7),
  .inr (0, 7),
  .inr (0, 7),
  .inr (0, 7),
  .inr (0, 56),
  .inl (5, [none, none, some 20, some 21, some 22, some 23, some 24, some 25, some 26, some 27]),
  .inr (0, 8),
  .inr (0, 8),
  .inr (0, 8),
  .inr (0, 7),
  .inr (0, 7),
  .inr (0, 7),
  .inr (0, 7),
  .inr (0, 56),
  .inl (5, [none, none, some 29, some 30, some 31, some 32, some 33, some 34, some 35, some 36]),
  .inr (0, 8),
  .inr (0, 8),
  .inr (0, 8),
  .inr (0, 7),
  .inr (0, 7),
  .inr (0, 7),
  .inr (0, 7),
  .inr (0, 56),
  .inl (5, [none, none, some 38, some 39, some 40, some 41, some 42, some 43, some 44, some 45]),
  .inr (0, 8),
  .inr (0, 8),
  .inr (0, 8),
  .inr (0, 7),
  .inr (0, 7),
  .inr (0, 7),
  .inr (0, 7),
  .inr (0, 56),
  .inl (5, [none, none, some 47, some 48, some 49, some 50, some 51, some 52, some 53, some 54]),
  .inr (0, 8),
  .inr (0, 8),
  .inr (0, 8),
  .inr (0, 7),
  .inr (0, 7),
  .inr (0, 7),
  .inr (0, 7),
  .inr (0, 56),
  .inl (5, [none, none, some 56, some 57, some 58, some 59, some 60, some 61, some 62, some 63]),
  .inr (0, 8),
  .inr (0, 8),
  .inr (0, 8),
  .inr (0, 7),
  .inr (0, 7),
  .inr (0, 7),
  .inr (0, 7),
  .inr (0, 56),
  .inl (5, [none, none, some 65, some 66, some 67, some 68, some 69, some 70, some 71, some 72]),
  .inr (0, 8),
  .inr (0, 8),
  .inr (0, 8),
  .inr (0, 7),
  .inr (0, 7),
  .inr (0, 7),
  .inr (0, 7),
  .inr (0, 56),
  .inl (5, [none, none, some 74, some 75, some 76, some 77, some 78, some 79, some 80, some 81]),
  .inr (0, 8),
  .inr (0, 8),
  .inr (0, 8),
  .inr (0, 7),
  .inr (0, 7),
  .inr (0, 7),
  .inr (0, 7),
  .inr (0, 56),
  .inl (4, [some 83, none]),
  .inr (2, 8),
  .inl (6, [some 1, some 85, some 86, some 87, none]),
  .inr (0, 1024),
  .inr (0, 128),
  .inr (0, 128),
  .inl (7, [some 1, some 84, some 89, some 90, some 91, some 92, some 93, some 94, none, none]),
  .inr (1, 128),
  .inr (3, 8),
  .inr (1, 56),
  .inr (1, 256),
  .inr (0, 256),
  .inr (0, 7),
  .inr (1, 256),
  .inr (1, 256),
  .inr (1, 256),
  .inr (1, 256),
  .inr (1, 256),
  .inr (1, 256),
  .inr (1, 256),
  .inr (1, 256),
  .inl (1, [some 1, some 84, some 88, some 104, none]),
  .inr (0, 128),
  .inl (0, [some 1, some 106, some 107]),
  .inr (0, 8),
  .inr (0, 7),
  .inl (2, [some 1, some 84, some 109, some 110, none]),
  .inr (0, 256),
  .inr (0, 256),
  .inl (3, [some 1, some 112, none, none, none]),
  .inr (0, 8),
  .inl (9, [none, none, none, some 114, some 115, some 116, some 117, some 118, some 119, some 120, some 121, some 122, none, none, none, some 123, none, some 124, some 125, some 126, some 127, none, none, none, some 128, none, some 129, none]),
  .inr (0, 8),
  .inr (0, 8),
  .inr (0, 8),
  .inr (0, 7),
  .inr (0, 7),
  .inr (0, 7),
  .inr (0, 7),
  .inr (0, 56),
  .inr (0, 880),
  .inr (0, 8),
  .inr (0, 256),
  .inr (0, 256),
  .inr (0, 8),
  .inr (0, 7),
  .inr (0, 256),
  .inr (0, 8)]
set_option maxRecDepth 100000 in
theorem hs_len : hs_sh.length = 130 := by rfl
theorem hs_c_0 : vwCl[0]? = some (RX0, TX0, 3) := rfl
theorem hs_c_1 : vwCl[1]? = some (RX1, TX1, 5) := rfl
theorem hs_c_2 : vwCl[2]? = some (RX2, TX2, 5) := rfl
theorem hs_c_3 : vwCl[3]? = some (RX3, TX3, 5) := rfl
theorem hs_c_4 : vwCl[4]? = some (RX4, TX4, 2) := rfl
theorem hs_c_5 : vwCl[5]? = some (RX5, TX5, 10) := rfl
theorem hs_c_6 : vwCl[6]? = some (RX6, TX6, 5) := rfl
theorem hs_c_7 : vwCl[7]? = some (RX7, TX7, 10) := rfl
theorem hs_c_8 : vwCl[8]? = some (RX8, TX8, 9) := rfl
theorem hs_c_9 : vwCl[9]? = some (RX9, TX9, 28) := rfl
theorem hs_0 : hs_sh[0]? = some (.inl (8, [some 1, some 82, some 84, some 88, some 103, some 105, some 108, some 111, none])) := rfl
theorem hs_o_0 : hd_isO hs_sh 8 0 := ⟨_, hs_0⟩
theorem hs_r_0_0 : hd_fR hs_sh 8 0 0 1 := ⟨_, hs_0, rfl⟩
theorem hs_t_0_0 : hd_ft hs_sh 8 0 0 = 1 := hd_ft_eq hs_r_0_0
theorem hs_r_0_1 : hd_fR hs_sh 8 1 0 82 := ⟨_, hs_0, rfl⟩
theorem hs_t_0_1 : hd_ft hs_sh 8 1 0 = 82 := hd_ft_eq hs_r_0_1
theorem hs_r_0_2 : hd_fR hs_sh 8 2 0 84 := ⟨_, hs_0, rfl⟩
theorem hs_t_0_2 : hd_ft hs_sh 8 2 0 = 84 := hd_ft_eq hs_r_0_2
theorem hs_r_0_3 : hd_fR hs_sh 8 3 0 88 := ⟨_, hs_0, rfl⟩
theorem hs_t_0_3 : hd_ft hs_sh 8 3 0 = 88 := hd_ft_eq hs_r_0_3
theorem hs_r_0_4 : hd_fR hs_sh 8 4 0 103 := ⟨_, hs_0, rfl⟩
theorem hs_t_0_4 : hd_ft hs_sh 8 4 0 = 103 := hd_ft_eq hs_r_0_4
theorem hs_r_0_5 : hd_fR hs_sh 8 5 0 105 := ⟨_, hs_0, rfl⟩
theorem hs_t_0_5 : hd_ft hs_sh 8 5 0 = 105 := hd_ft_eq hs_r_0_5
theorem hs_r_0_6 : hd_fR hs_sh 8 6 0 108 := ⟨_, hs_0, rfl⟩
theorem hs_t_0_6 : hd_ft hs_sh 8 6 0 = 108 := hd_ft_eq hs_r_0_6
theorem hs_r_0_7 : hd_fR hs_sh 8 7 0 111 := ⟨_, hs_0, rfl⟩
theorem hs_t_0_7 : hd_ft hs_sh 8 7 0 = 111 := hd_ft_eq hs_r_0_7
theorem hs_f_0_8 : hd_fI hs_sh 8 8 0 := ⟨_, hs_0, rfl⟩
theorem hs_1 : hs_sh[1]? = some (.inl (5, [none, none, some 2, some 3, some 4, some 5, some 6, some 7, some 8, some 9])) := rfl
theorem hs_o_1 : hd_isO hs_sh 5 1 := ⟨_, hs_1⟩
theorem hs_f_1_0 : hd_fI hs_sh 5 0 1 := ⟨_, hs_1, rfl⟩
theorem hs_f_1_1 : hd_fI hs_sh 5 1 1 := ⟨_, hs_1, rfl⟩
theorem hs_r_1_2 : hd_fR hs_sh 5 2 1 2 := ⟨_, hs_1, rfl⟩
theorem hs_t_1_2 : hd_ft hs_sh 5 2 1 = 2 := hd_ft_eq hs_r_1_2
theorem hs_r_1_3 : hd_fR hs_sh 5 3 1 3 := ⟨_, hs_1, rfl⟩
theorem hs_t_1_3 : hd_ft hs_sh 5 3 1 = 3 := hd_ft_eq hs_r_1_3
theorem hs_r_1_4 : hd_fR hs_sh 5 4 1 4 := ⟨_, hs_1, rfl⟩
theorem hs_t_1_4 : hd_ft hs_sh 5 4 1 = 4 := hd_ft_eq hs_r_1_4
theorem hs_r_1_5 : hd_fR hs_sh 5 5 1 5 := ⟨_, hs_1, rfl⟩
theorem hs_t_1_5 : hd_ft hs_sh 5 5 1 = 5 := hd_ft_eq hs_r_1_5
theorem hs_r_1_6 : hd_fR hs_sh 5 6 1 6 := ⟨_, hs_1, rfl⟩
theorem hs_t_1_6 : hd_ft hs_sh 5 6 1 = 6 := hd_ft_eq hs_r_1_6
theorem hs_r_1_7 : hd_fR hs_sh 5 7 1 7 := ⟨_, hs_1, rfl⟩
theorem hs_t_1_7 : hd_ft hs_sh 5 7 1 = 7 := hd_ft_eq hs_r_1_7
theorem hs_r_1_8 : hd_fR hs_sh 5 8 1 8 := ⟨_, hs_1, rfl⟩
theorem hs_t_1_8 : hd_ft hs_sh 5 8 1 = 8 := hd_ft_eq hs_r_1_8
theorem hs_r_1_9 : hd_fR hs_sh 5 9 1 9 := ⟨_, hs_1, rfl⟩
theorem hs_t_1_9 : hd_ft hs_sh 5 9 1 = 9 := hd_ft_eq hs_r_1_9
theorem hs_2 : hs_sh[2]? = some (.inr (0, 8)) := rfl
theorem hs_i_2 (i : Int32) : hd_in hs_sh 0 2 i ↔ vp_in i 8 := ⟨fun ⟨n, h1, h2⟩ => by rw [hs_2] at h1; cases h1; exact h2, fun h => ⟨_, hs_2, h⟩⟩
theorem hs_l_2 : hd_len hs_sh 2 = 8 := rfl
theorem hs_3 : hs_sh[3]? = some (.inr (0, 8)) := rfl
theorem hs_i_3 (i : Int32) : hd_in hs_sh 0 3 i ↔ vp_in i 8 := ⟨fun ⟨n, h1, h2⟩ => by rw [hs_3] at h1; cases h1; exact h2, fun h => ⟨_, hs_3, h⟩⟩
theorem hs_l_3 : hd_len hs_sh 3 = 8 := rfl
theorem hs_4 : hs_sh[4]? = some (.inr (0, 8)) := rfl
theorem hs_i_4 (i : Int32) : hd_in hs_sh 0 4 i ↔ vp_in i 8 := ⟨fun ⟨n, h1, h2⟩ => by rw [hs_4] at h1; cases h1; exact h2, fun h => ⟨_, hs_4, h⟩⟩
theorem hs_l_4 : hd_len hs_sh 4 = 8 := rfl
theorem hs_5 : hs_sh[5]? = some (.inr (0, 7)) := rfl
theorem hs_i_5 (i : Int32) : hd_in hs_sh 0 5 i ↔ vp_in i 7 := ⟨fun ⟨n, h1, h2⟩ => by rw [hs_5] at h1; cases h1; exact h2, fun h => ⟨_, hs_5, h⟩⟩
theorem hs_l_5 : hd_len hs_sh 5 = 7 := rfl
theorem hs_6 : hs_sh[6]? = some (.inr (0, 7)) := rfl
theorem hs_i_6 (i : Int32) : hd_in hs_sh 0 6 i ↔ vp_in i 7 := ⟨fun ⟨n, h1, h2⟩ => by rw [hs_6] at h1; cases h1; exact h2, fun h => ⟨_, hs_6, h⟩⟩
theorem hs_l_6 : hd_len hs_sh 6 = 7 := rfl
theorem hs_7 : hs_sh[7]? = some (.inr (0, 7)) := rfl
theorem hs_i_7 (i : Int32) : hd_in hs_sh 0 7 i ↔ vp_in i 7 := ⟨fun ⟨n, h1, h2⟩ => by rw [hs_7] at h1; cases h1; exact h2, fun h => ⟨_, hs_7, h⟩⟩
theorem hs_l_7 : hd_len hs_sh 7 = 7 := rfl
theorem hs_8 : hs_sh[8]? = some (.inr (0, 7)) := rfl
theorem hs_i_8 (i : Int32) : hd_in hs_sh 0 8 i ↔ vp_in i 7 := ⟨fun ⟨n, h1, h2⟩ => by rw [hs_8] at h1; cases h1; exact h2, fun h => ⟨_, hs_8, h⟩⟩
theorem hs_l_8 : hd_len hs_sh 8 = 7 := rfl
theorem hs_9 : hs_sh[9]? = some (.inr (0, 56)) := rfl
theorem hs_i_9 (i : Int32) : hd_in hs_sh 0 9 i ↔ vp_in i 56 := ⟨fun ⟨n, h1, h2⟩ => by rw [hs_9] at h1; cases h1; exact h2, fun h => ⟨_, hs_9, h⟩⟩
theorem hs_l_9 : hd_len hs_sh 9 = 56 := rfl
theorem hs_10 : hs_sh[10]? = some (.inl (5, [none, none, some 11, some 12, some 13, some 14, some 15, some 16, some 17, some 18])) := rfl
theorem hs_o_10 : hd_isO hs_sh 5 10 := ⟨_, hs_10⟩
theorem hs_f_10_0 : hd_fI hs_sh 5 0 10 := ⟨_, hs_10, rfl⟩
theorem hs_f_10_1 : hd_fI hs_sh 5 1 10 := ⟨_, hs_10, rfl⟩
theorem hs_r_10_2 : hd_fR hs_sh 5 2 10 11 := ⟨_, hs_10, rfl⟩
theorem hs_t_10_2 : hd_ft hs_sh 5 2 10 = 11 := hd_ft_eq hs_r_10_2
theorem hs_r_10_3 : hd_fR hs_sh 5 3 10 12 := ⟨_, hs_10, rfl⟩
theorem hs_t_10_3 : hd_ft hs_sh 5 3 10 = 12 := hd_ft_eq hs_r_10_3
theorem hs_r_10_4 : hd_fR hs_sh 5 4 10 13 := ⟨_, hs_10, rfl⟩
theorem hs_t_10_4 : hd_ft hs_sh 5 4 10 = 13 := hd_ft_eq hs_r_10_4
theorem hs_r_10_5 : hd_fR hs_sh 5 5 10 14 := ⟨_, hs_10, rfl⟩
theorem hs_t_10_5 : hd_ft hs_sh 5 5 10 = 14 := hd_ft_eq hs_r_10_5
theorem hs_r_10_6 : hd_fR hs_sh 5 6 10 15 := ⟨_, hs_10, rfl⟩
theorem hs_t_10_6 : hd_ft hs_sh 5 6 10 = 15 := hd_ft_eq hs_r_10_6
theorem hs_r_10_7 : hd_fR hs_sh 5 7 10 16 := ⟨_, hs_10, rfl⟩
theorem hs_t_10_7 : hd_ft hs_sh 5 7 10 = 16 := hd_ft_eq hs_r_10_7
theorem hs_r_10_8 : hd_fR hs_sh 5 8 10 17 := ⟨_, hs_10, rfl⟩
theorem hs_t_10_8 : hd_ft hs_sh 5 8 10 = 17 := hd_ft_eq hs_r_10_8
theorem hs_r_10_9 : hd_fR hs_sh 5 9 10 18 := ⟨_, hs_10, rfl⟩
theorem hs_t_10_9 : hd_ft hs_sh 5 9 10 = 18 := hd_ft_eq hs_r_10_9
theorem hs_11 : hs_sh[11]? = some (.inr (0, 8)) := rfl
theorem hs_i_11 (i : Int32) : hd_in hs_sh 0 11 i ↔ vp_in i 8 := ⟨fun ⟨n, h1, h2⟩ => by rw [hs_11] at h1; cases h1; exact h2, fun h => ⟨_, hs_11, h⟩⟩
theorem hs_l_11 : hd_len hs_sh 11 = 8 := rfl
theorem hs_12 : hs_sh[12]? = some (.inr (0, 8)) := rfl
theorem hs_i_12 (i : Int32) : hd_in hs_sh 0 12 i ↔ vp_in i 8 := ⟨fun ⟨n, h1, h2⟩ => by rw [hs_12] at h1; cases h1; exact h2, fun h => ⟨_, hs_12, h⟩⟩
theorem hs_l_12 : hd_len hs_sh 12 = 8 := rfl
theorem hs_13 : hs_sh[13]? = some (.inr (0, 8)) := rfl
theorem hs_i_13 (i : Int32) : hd_in hs_sh 0 13 i ↔ vp_in i 8 := ⟨fun ⟨n, h1, h2⟩ => by rw [hs_13] at h1; cases h1; exact h2, fun h => ⟨_, hs_13, h⟩⟩
theorem hs_l_13 : hd_len hs_sh 13 = 8 := rfl
theorem hs_14 : hs_sh[14]? = some (.inr (0, 7)) := rfl
theorem hs_i_14 (i : Int32) : hd_in hs_sh 0 14 i ↔ vp_in i 7 := ⟨fun ⟨n, h1, h2⟩ => by rw [hs_14] at h1; cases h1; exact h2, fun h => ⟨_, hs_14, h⟩⟩
theorem hs_l_14 : hd_len hs_sh 14 = 7 := rfl
theorem hs_15 : hs_sh[15]? = some (.inr (0, 7)) := rfl
theorem hs_i_15 (i : Int32) : hd_in hs_sh 0 15 i ↔ vp_in i 7 := ⟨fun ⟨n, h1, h2⟩ => by rw [hs_15] at h1; cases h1; exact h2, fun h => ⟨_, hs_15, h⟩⟩
theorem hs_l_15 : hd_len hs_sh 15 = 7 := rfl
theorem hs_16 : hs_sh[16]? = some (.inr (0, 7)) := rfl
theorem hs_i_16 (i : Int32) : hd_in hs_sh 0 16 i ↔ vp_in i 7 := ⟨fun ⟨n, h1, h2⟩ => by rw [hs_16] at h1; cases h1; exact h2, fun h => ⟨_, hs_16, h⟩⟩
theorem hs_l_16 : hd_len hs_sh 16 = 7 := rfl
theorem hs_17 : hs_sh[17]? = some (.inr (0, 7)) := rfl
theorem hs_i_17 (i : Int32) : hd_in hs_sh 0 17 i ↔ vp_in i 7 := ⟨fun ⟨n, h1, h2⟩ => by rw [hs_17] at h1; cases h1; exact h2, fun h => ⟨_, hs_17, h⟩⟩
theorem hs_l_17 : hd_len hs_sh 17 = 7 := rfl
theorem hs_18 : hs_sh[18]? = some (.inr (0, 56)) := rfl
theorem hs_i_18 (i : Int32) : hd_in hs_sh 0 18 i ↔ vp_in i 56 := ⟨fun ⟨n, h1, h2⟩ => by rw [hs_18] at h1; cases h1; exact h2, fun h => ⟨_, hs_18, h⟩⟩
theorem hs_l_18 : hd_len hs_sh 18 = 56 := rfl
theorem hs_19 : hs_sh[19]? = some (.inl (5, [none, none, some 20, some 21, some 22, some 23, some 24, some 25, some 26, some 27])) := rfl
theorem hs_o_19 : hd_isO hs_sh 5 19 := ⟨_, hs_19⟩
theorem hs_f_19_0 : hd_fI hs_sh 5 0 19 := ⟨_, hs_19, rfl⟩
theorem hs_f_19_1 : hd_fI hs_sh 5 1 19 := ⟨_, hs_19, rfl⟩
theorem hs_r_19_2 : hd_fR hs_sh 5 2 19 20 := ⟨_, hs_19, rfl⟩
theorem hs_t_19_2 : hd_ft hs_sh 5 2 19 = 20 := hd_ft_eq hs_r_19_2
theorem hs_r_19_3 : hd_fR hs_sh 5 3 19 21 := ⟨_, hs_19, rfl⟩
theorem hs_t_19_3 : hd_ft hs_sh 5 3 19 = 21 := hd_ft_eq hs_r_19_3
theorem hs_r_19_4 : hd_fR hs_sh 5 4 19 22 := ⟨_, hs_19, rfl⟩
theorem hs_t_19_4 : hd_ft hs_sh 5 4 19 = 22 := hd_ft_eq hs_r_19_4
theorem hs_r_19_5 : hd_fR hs_sh 5 5 19 23 := ⟨_, hs_19, rfl⟩
theorem hs_t_19_5 : hd_ft hs_sh 5 5 19 = 23 := hd_ft_eq hs_r_19_5
theorem hs_r_19_6 : hd_fR hs_sh 5 6 19 24 := ⟨_, hs_19, rfl⟩
theorem hs_t_19_6 : hd_ft hs_sh 5 6 19 = 24 := hd_ft_eq hs_r_19_6
theorem hs_r_19_7 : hd_fR hs_sh 5 7 19 25 := ⟨_, hs_19, rfl⟩
theorem hs_t_19_7 : hd_ft hs_sh 5 7 19 = 25 := hd_ft_eq hs_r_19_7
theorem hs_r_19_8 : hd_fR hs_sh 5 8 19 26 := ⟨_, hs_19, rfl⟩
theorem hs_t_19_8 : hd_ft hs_sh 5 8 19 = 26 := hd_ft_eq hs_r_19_8
theorem hs_r_19_9 : hd_fR hs_sh 5 9 19 27 := ⟨_, hs_19, rfl⟩
theorem hs_t_19_9 : hd_ft hs_sh 5 9 19 = 27 := hd_ft_eq hs_r_19_9
theorem hs_20 : hs_sh[20]? = some (.inr (0, 8)) := rfl
theorem hs_i_20 (i : Int32) : hd_in hs_sh 0 20 i ↔ vp_in i 8 := ⟨fun ⟨n, h1, h2⟩ => by rw [hs_20] at h1; cases h1; exact h2, fun h => ⟨_, hs_20, h⟩⟩
theorem hs_l_20 : hd_len hs_sh 20 = 8 := rfl
theorem hs_21 : hs_sh[21]? = some (.inr (0, 8)) := rfl
theorem hs_i_21 (i : Int32) : hd_in hs_sh 0 21 i ↔ vp_in i 8 := ⟨fun ⟨n, h1, h2⟩ => by rw [hs_21] at h1; cases h1; exact h2, fun h => ⟨_, hs_21, h⟩⟩
theorem hs_l_21 : hd_len hs_sh 21 = 8 := rfl
theorem hs_22 : hs_sh[22]? = some (.inr (0, 8)) := rfl
theorem hs_i_22 (i : Int32) : hd_in hs_sh 0 22 i ↔ vp_in i 8 := ⟨fun ⟨n, h1, h2⟩ => by rw [hs_22] at h1; cases h1; exact h2, fun h => ⟨_, hs_22, h⟩⟩
theorem hs_l_22 : hd_len hs_sh 22 = 8 := rfl
theorem hs_23 : hs_sh[23]? = some (.inr (0, 7)) := rfl
theorem hs_i_23 (i : Int32) : hd_in hs_sh 0 23 i ↔ vp_in i 7 := ⟨fun ⟨n, h1, h2⟩ => by rw [hs_23] at h1; cases h1; exact h2, fun h => ⟨_, hs_23, h⟩⟩
theorem hs_l_23 : hd_len hs_sh 23 = 7 := rfl
theorem hs_24 : hs_sh[24]? = some (.inr (0, 7)) := rfl
theorem hs_i_24 (i : Int32) : hd_in hs_sh 0 24 i ↔ vp_in i 7 := ⟨fun ⟨n, h1, h2⟩ => by rw [hs_24] at h1; cases h1; exact h2, fun h => ⟨_, hs_24, h⟩⟩
theorem hs_l_24 : hd_len hs_sh 24 = 7 := rfl
theorem hs_25 : hs_sh[25]? = some (.inr (0, 7)) := rfl
theorem hs_i_25 (i : Int32) : hd_in hs_sh 0 25 i ↔ vp_in i 7 := ⟨fun ⟨n, h1, h2⟩ => by rw [hs_25] at h1; cases h1; exact h2, fun h => ⟨_, hs_25, h⟩⟩
theorem hs_l_25 : hd_len hs_sh 25 = 7 := rfl
theorem hs_26 : hs_sh[26]? = some (.inr (0, 7)) := rfl
theorem hs_i_26 (i : Int32) : hd_in hs_sh 0 26 i ↔ vp_in i 7 := ⟨fun ⟨n, h1, h2⟩ => by rw [hs_26] at h1; cases h1; exact h2, fun h => ⟨_, hs_26, h⟩⟩
theorem hs_l_26 : hd_len hs_sh 26 = 7 := rfl
theorem hs_27 : hs_sh[27]? = some (.inr (0, 56)) := rfl
theorem hs_i_27 (i : Int32) : hd_in hs_sh 0 27 i ↔ vp_in i 56 := ⟨fun ⟨n, h1, h2⟩ => by rw [hs_27] at h1; cases h1; exact h2, fun h => ⟨_, hs_27, h⟩⟩
theorem hs_l_27 : hd_len hs_sh 27 = 56 := rfl
theorem hs_28 : hs_sh[28]? = some (.inl (5, [none, none, some 29, some 30, some 31, some 32, some 33, some 34, some 35, some 36])) := rfl
theorem hs_o_28 : hd_isO hs_sh 5 28 := ⟨_, hs_28⟩
theorem hs_f_28_0 : hd_fI hs_sh 5 0 28 := ⟨_, hs_28, rfl⟩
theorem hs_f_28_1 : hd_fI hs_sh 5 1 28 := ⟨_, hs_28, rfl⟩
theorem hs_r_28_2 : hd_fR hs_sh 5 2 28 29 := ⟨_, hs_28, rfl⟩
theorem hs_t_28_2 : hd_ft hs_sh 5 2 28 = 29 := hd_ft_eq hs_r_28_2
theorem hs_r_28_3 : hd_fR hs_sh 5 3 28 30 := ⟨_, hs_28, rfl⟩
theorem hs_t_28_3 : hd_ft hs_sh 5 3 28 = 30 := hd_ft_eq hs_r_28_3
theorem hs_r_28_4 : hd_fR hs_sh 5 4 28 31 := ⟨_, hs_28, rfl⟩
theorem hs_t_28_4 : hd_ft hs_sh 5 4 28 = 31 := hd_ft_eq hs_r_28_4
theorem hs_r_28_5 : hd_fR hs_sh 5 5 28 32 := ⟨_, hs_28, rfl⟩
theorem hs_t_28_5 : hd_ft hs_sh 5 5 28 = 32 := hd_ft_eq hs_r_28_5
theorem hs_r_28_6 : hd_fR hs_sh 5 6 28 33 := ⟨_, hs_28, rfl⟩
theorem hs_t_28_6 : hd_ft hs_sh 5 6 28 = 33 := hd_ft_eq hs_r_28_6
theorem hs_r_28_7 : hd_fR hs_sh 5 7 28 34 := ⟨_, hs_28, rfl⟩
theorem hs_t_28_7 : hd_ft hs_sh 5 7 28 = 34 := hd_ft_eq hs_r_28_7
theorem hs_r_28_8 : hd_fR hs_sh 5 8 28 35 := ⟨_, hs_28, rfl⟩
theorem hs_t_28_8 : hd_ft hs_sh 5 8 28 = 35 := hd_ft_eq hs_r_28_8
theorem hs_r_28_9 : hd_fR hs_sh 5 9 28 36 := ⟨_, hs_28, rfl⟩
theorem hs_t_28_9 : hd_ft hs_sh 5 9 28 = 36 := hd_ft_eq hs_r_28_9
theorem hs_29 : hs_sh[29]? = some (.inr (0, 8)) := rfl
theorem hs_i_29 (i : Int32) : hd_in hs_sh 0 29 i ↔ vp_in i 8 := ⟨fun ⟨n, h1, h2⟩ => by rw [hs_29] at h1; cases h1; exact h2, fun h => ⟨_, hs_29, h⟩⟩
theorem hs_l_29 : hd_len hs_sh 29 = 8 := rfl
theorem hs_30 : hs_sh[30]? = some (.inr (0, 8)) := rfl
theorem hs_i_30 (i : Int32) : hd_in hs_sh 0 30 i ↔ vp_in i 8 := ⟨fun ⟨n, h1, h2⟩ => by rw [hs_30] at h1; cases h1; exact h2, fun h => ⟨_, hs_30, h⟩⟩
theorem hs_l_30 : hd_len hs_sh 30 = 8 := rfl
theorem hs_31 : hs_sh[31]? = some (.inr (0, 8)) := rfl
theorem hs_i_31 (i : Int32) : hd_in hs_sh 0 31 i ↔ vp_in i 8 := ⟨fun ⟨n, h1, h2⟩ => by rw [hs_31] at h1; cases h1; exact h2, fun h => ⟨_, hs_31, h⟩⟩
theorem hs_l_31 : hd_len hs_sh 31 = 8 := rfl
theorem hs_32 : hs_sh[32]? = some (.inr (0, 7)) := rfl
theorem hs_i_32 (i : Int32) : hd_in hs_sh 0 32 i ↔ vp_in i 7 := ⟨fun ⟨n, h1, h2⟩ => by rw [hs_32] at h1; cases h1; exact h2, fun h => ⟨_, hs_32, h⟩⟩
theorem hs_l_32 : hd_len hs_sh 32 = 7 := rfl
theorem hs_33 : hs_sh[33]? = some (.inr (0, 7)) := rfl
theorem hs_i_33 (i : Int32) : hd_in hs_sh 0 33 i ↔ vp_in i 7 := ⟨fun ⟨n, h1, h2⟩ => by rw [hs_33] at h1; cases h1; exact h2, fun h => ⟨_, hs_33, h⟩⟩
theorem hs_l_33 : hd_len hs_sh 33 = 7 := rfl
theorem hs_34 : hs_sh[34]? = some (.inr (0, 7)) := rfl
theorem hs_i_34 (i : Int32) : hd_in hs_sh 0 34 i ↔ vp_in i 7 := ⟨fun ⟨n, h1, h2⟩ => by rw [hs_34] at h1; cases h1; exact h2, fun h => ⟨_, hs_34, h⟩⟩
theorem hs_l_34 : hd_len hs_sh 34 = 7 := rfl
theorem hs_35 : hs_sh[35]? = some (.inr (0, 7)) := rfl
theorem hs_i_35 (i : Int32) : hd_in hs_sh 0 35 i ↔ vp_in i 7 := ⟨fun ⟨n, h1, h2⟩ => by rw [hs_35] at h1; cases h1; exact h2, fun h => ⟨_, hs_35, h⟩⟩
theorem hs_l_35 : hd_len hs_sh 35 = 7 := rfl
theorem hs_36 : hs_sh[36]? = some (.inr (0, 56)) := rfl
theorem hs_i_36 (i : Int32) : hd_in hs_sh 0 36 i ↔ vp_in i 56 := ⟨fun ⟨n, h1, h2⟩ => by rw [hs_36] at h1; cases h1; exact h2, fun h => ⟨_, hs_36, h⟩⟩
theorem hs_l_36 : hd_len hs_sh 36 = 56 := rfl
theorem hs_37 : hs_sh[37]? = some (.inl (5, [none, none, some 38, some 39, some 40, some 41, some 42, some 43, some 44, some 45])) := rfl
theorem hs_o_37 : hd_isO hs_sh 5 37 := ⟨_, hs_37⟩
theorem hs_f_37_0 : hd_fI hs_sh 5 0 37 := ⟨_, hs_37, rfl⟩
theorem hs_f_37_1 : hd_fI hs_sh 5 1 37 := ⟨_, hs_37, rfl⟩
theorem hs_r_37_2 : hd_fR hs_sh 5 2 37 38 := ⟨_, hs_37, rfl⟩
theorem hs_t_37_2 : hd_ft hs_sh 5 2 37 = 38 := hd_ft_eq hs_r_37_2
theorem hs_r_37_3 : hd_fR hs_sh 5 3 37 39 := ⟨_, hs_37, rfl⟩
theorem hs_t_37_3 : hd_ft hs_sh 5 3 37 = 39 := hd_ft_eq hs_r_37_3
theorem hs_r_37_4 : hd_fR hs_sh 5 4 37 40 := ⟨_, hs_37, rfl⟩
theorem hs_t_37_4 : hd_ft hs_sh 5 4 37 = 40 := hd_ft_eq hs_r_37_4
theorem hs_r_37_5 : hd_fR hs_sh 5 5 37 41 := ⟨_, hs_37, rfl⟩
theorem hs_t_37_5 : hd_ft hs_sh 5 5 37 = 41 := hd_ft_eq hs_r_37_5
theorem hs_r_37_6 : hd_fR hs_sh 5 6 37 42 := ⟨_, hs_37, rfl⟩
theorem hs_t_37_6 : hd_ft hs_sh 5 6 37 = 42 := hd_ft_eq hs_r_37_6
theorem hs_r_37_7 : hd_fR hs_sh 5 7 37 43 := ⟨_, hs_37, rfl⟩
theorem hs_t_37_7 : hd_ft hs_sh 5 7 37 = 43 := hd_ft_eq hs_r_37_7
theorem hs_r_37_8 : hd_fR hs_sh 5 8 37 44 := ⟨_, hs_37, rfl⟩
theorem hs_t_37_8 : hd_ft hs_sh 5 8 37 = 44 := hd_ft_eq hs_r_37_8
theorem hs_r_37_9 : hd_fR hs_sh 5 9 37 45 := ⟨_, hs_37, rfl⟩
theorem hs_t_37_9 : hd_ft hs_sh 5 9 37 = 45 := hd_ft_eq hs_r_37_9
theorem hs_38 : hs_sh[38]? = some (.inr (0, 8)) := rfl
theorem hs_i_38 (i : Int32) : hd_in hs_sh 0 38 i ↔ vp_in i 8 := ⟨fun ⟨n, h1, h2⟩ => by rw [hs_38] at h1; cases h1; exact h2, fun h => ⟨_, hs_38, h⟩⟩
theorem hs_l_38 : hd_len hs_sh 38 = 8 := rfl
theorem hs_39 : hs_sh[39]? = some (.inr (0, 8)) := rfl
theorem hs_i_39 (i : Int32) : hd_in hs_sh 0 39 i ↔ vp_in i 8 := ⟨fun ⟨n, h1, h2⟩ => by rw [hs_39] at h1; cases h1; exact h2, fun h => ⟨_, hs_39, h⟩⟩
theorem hs_l_39 : hd_len hs_sh 39 = 8 := rfl
theorem hs_40 : hs_sh[40]? = some (.inr (0, 8)) := rfl
theorem hs_i_40 (i : Int32) : hd_in hs_sh 0 40 i ↔ vp_in i 8 := ⟨fun ⟨n, h1, h2⟩ => by rw [hs_40] at h1; cases h1; exact h2, fun h => ⟨_, hs_40, h⟩⟩
theorem hs_l_40 : hd_len hs_sh 40 = 8 := rfl
theorem hs_41 : hs_sh[41]? = some (.inr (0, 7)) := rfl
theorem hs_i_41 (i : Int32) : hd_in hs_sh 0 41 i ↔ vp_in i 7 := ⟨fun ⟨n, h1, h2⟩ => by rw [hs_41] at h1; cases h1; exact h2, fun h => ⟨_, hs_41, h⟩⟩
theorem hs_l_41 : hd_len hs_sh 41 = 7 := rfl
theorem hs_42 : hs_sh[42]? = some (.inr (0, 7)) := rfl
theorem hs_i_42 (i : Int32) : hd_in hs_sh 0 42 i ↔ vp_in i 7 := ⟨fun ⟨n, h1, h2⟩ => by rw [hs_42] at h1; cases h1; exact h2, fun h => ⟨_, hs_42, h⟩⟩
theorem hs_l_42 : hd_len hs_sh 42 = 7 := rfl
theorem hs_43 : hs_sh[43]? = some (.inr (0, 7)) := rfl
theorem hs_i_43 (i : Int32) : hd_in hs_sh 0 43 i ↔ vp_in i 7 := ⟨fun ⟨n, h1, h2⟩ => by rw [hs_43] at h1; cases h1; exact h2, fun h => ⟨_, hs_43, h⟩⟩
theorem hs_l_43 : hd_len hs_sh 43 = 7 := rfl
theorem hs_44 : hs_sh[44]? = some (.inr (0, 7)) := rfl
theorem hs_i_44 (i : Int32) : hd_in hs_sh 0 44 i ↔ vp_in i 7 := ⟨fun ⟨n, h1, h2⟩ => by rw [hs_44] at h1; cases h1; exact h2, fun h => ⟨_, hs_44, h⟩⟩
theorem hs_l_44 : hd_len hs_sh 44 = 7 := rfl
theorem hs_45 : hs_sh[45]? = some (.inr (0, 56)) := rfl
theorem hs_i_45 (i : Int32) : hd_in hs_sh 0 45 i ↔ vp_in i 56 := ⟨fun ⟨n, h1, h2⟩ => by rw [hs_45] at h1; cases h1; exact h2, fun h => ⟨_, hs_45, h⟩⟩
theorem hs_l_45 : hd_len hs_sh 45 = 56 := rfl
theorem hs_46 : hs_sh[46]? = some (.inl (5, [none, none, some 47, some 48, some 49, some 50, some 51, some 52, some 53, some 54])) := rfl
theorem hs_o_46 : hd_isO hs_sh 5 46 := ⟨_, hs_46⟩
theorem hs_f_46_0 : hd_fI hs_sh 5 0 46 := ⟨_, hs_46, rfl⟩
theorem hs_f_46_1 : hd_fI hs_sh 5 1 46 := ⟨_, hs_46, rfl⟩
theorem hs_r_46_2 : hd_fR hs_sh 5 2 46 47 := ⟨_, hs_46, rfl⟩
theorem hs_t_46_2 : hd_ft hs_sh 5 2 46 = 47 := hd_ft_eq hs_r_46_2
theorem hs_r_46_3 : hd_fR hs_sh 5 3 46 48 := ⟨_, hs_46, rfl⟩
theorem hs_t_46_3 : hd_ft hs_sh 5 3 46 = 48 := hd_ft_eq hs_r_46_3
theorem hs_r_46_4 : hd_fR hs_sh 5 4 46 49 := ⟨_, hs_46, rfl⟩
theorem hs_t_46_4 : hd_ft hs_sh 5 4 46 = 49 := hd_ft_eq hs_r_46_4
theorem hs_r_46_5 : hd_fR hs_sh 5 5 46 50 := ⟨_, hs_46, rfl⟩
theorem hs_t_46_5 : hd_ft hs_sh 5 5 46 = 50 := hd_ft_eq hs_r_46_5
theorem hs_r_46_6 : hd_fR hs_sh 5 6 46 51 := ⟨_, hs_46, rfl⟩
theorem hs_t_46_6 : hd_ft hs_sh 5 6 46 = 51 := hd_ft_eq hs_r_46_6
theorem hs_r_46_7 : hd_fR hs_sh 5 7 46 52 := ⟨_, hs_46, rfl⟩
theorem hs_t_46_7 : hd_ft hs_sh 5 7 46 = 52 := hd_ft_eq hs_r_46_7
theorem hs_r_46_8 : hd_fR hs_sh 5 8 46 53 := ⟨_, hs_46, rfl⟩
theorem hs_t_46_8 : hd_ft hs_sh 5 8 46 = 53 := hd_ft_eq hs_r_46_8
theorem hs_r_46_9 : hd_fR hs_sh 5 9 46 54 := ⟨_, hs_46, rfl⟩
theorem hs_t_46_9 : hd_ft hs_sh 5 9 46 = 54 := hd_ft_eq hs_r_46_9
theorem hs_47 : hs_sh[47]? = some (.inr (0, 8)) := rfl
theorem hs_i_47 (i : Int32) : hd_in hs_sh 0 47 i ↔ vp_in i 8 := ⟨fun ⟨n, h1, h2⟩ => by rw [hs_47] at h1; cases h1; exact h2, fun h => ⟨_, hs_47, h⟩⟩
theorem hs_l_47 : hd_len hs_sh 47 = 8 := rfl
theorem hs_48 : hs_sh[48]? = some (.inr (0, 8)) := rfl
theorem hs_i_48 (i : Int32) : hd_in hs_sh 0 48 i ↔ vp_in i 8 := ⟨fun ⟨n, h1, h2⟩ => by rw [hs_48] at h1; cases h1; exact h2, fun h => ⟨_, hs_48, h⟩⟩
theorem hs_l_48 : hd_len hs_sh 48 = 8 := rfl
theorem hs_49 : hs_sh[49]? = some (.inr (0, 8)) := rfl
theorem hs_i_49 (i : Int32) : hd_in hs_sh 0 49 i ↔ vp_in i 8 := ⟨fun ⟨n, h1, h2⟩ => by rw [hs_49] at h1; cases h1; exact h2, fun h => ⟨_, hs_49, h⟩⟩
theorem hs_l_49 : hd_len hs_sh 49 = 8 := rfl
theorem hs_50 : hs_sh[50]? = some (.inr (0, 7)) := rfl
theorem hs_i_50 (i : Int32) : hd_in hs_sh 0 50 i ↔ vp_in i 7 := ⟨fun ⟨n, h1, h2⟩ => by rw [hs_50] at h1; cases h1; exact h2, fun h => ⟨_, hs_50, h⟩⟩
theorem hs_l_50 : hd_len hs_sh 50 = 7 := rfl
theorem hs_51 : hs_sh[51]? = some (.inr (0, 7)) := rfl
theorem hs_i_51 (i : Int32) : hd_in hs_sh 0 51 i ↔ vp_in i 7 := ⟨fun ⟨n, h1, h2⟩ => by rw [hs_51] at h1; cases h1; exact h2, fun h => ⟨_, hs_51, h⟩⟩
theorem hs_l_51 : hd_len hs_sh 51 = 7 := rfl
theorem hs_52 : hs_sh[52]? = some (.inr (0, 7)) := rfl
theorem hs_i_52 (i : Int32) : hd_in hs_sh 0 52 i ↔ vp_in i 7 := ⟨fun ⟨n, h1, h2⟩ => by rw [hs_52] at h1; cases h1; exact h2, fun h => ⟨_, hs_52, h⟩⟩
theorem hs_l_52 : hd_len hs_sh 52 = 7 := rfl
theorem hs_53 : hs_sh[53]? = some (.inr (0, 7)) := rfl
theorem hs_i_53 (i : Int32) : hd_in hs_sh 0 53 i ↔ vp_in i 7 := ⟨fun ⟨n, h1, h2⟩ => by rw [hs_53] at h1; cases h1; exact h2, fun h => ⟨_, hs_53, h⟩⟩
theorem hs_l_53 : hd_len hs_sh 53 = 7 := rfl
theorem hs_54 : hs_sh[54]? = some (.inr (0, 56)) := rfl
theorem hs_i_54 (i : Int32) : hd_in hs_sh 0 54 i ↔ vp_in i 56 := ⟨fun ⟨n, h1, h2⟩ => by rw [hs_54] at h1; cases h1; exact h2, fun h => ⟨_, hs_54, h⟩⟩
theorem hs_l_54 : hd_len hs_sh 54 = 56 := rfl
theorem hs_55 : hs_sh[55]? = some (.inl (5, [none, none, some 56, some 57, some 58, some 59, some 60, some 61, some 62, some 63])) := rfl
theorem hs_o_55 : hd_isO hs_sh 5 55 := ⟨_, hs_55⟩
theorem hs_f_55_0 : hd_fI hs_sh 5 0 55 := ⟨_, hs_55, rfl⟩
theorem hs_f_55_1 : hd_fI hs_sh 5 1 55 := ⟨_, hs_55, rfl⟩
theorem hs_r_55_2 : hd_fR hs_sh 5 2 55 56 := ⟨_, hs_55, rfl⟩
theorem hs_t_55_2 : hd_ft hs_sh 5 2 55 = 56 := hd_ft_eq hs_r_55_2
theorem hs_r_55_3 : hd_fR hs_sh 5 3 55 57 := ⟨_, hs_55, rfl⟩
theorem hs_t_55_3 : hd_ft hs_sh 5 3 55 = 57 := hd_ft_eq hs_r_55_3
theorem hs_r_55_4 : hd_fR hs_sh 5 4 55 58 := ⟨_, hs_55, rfl⟩
theorem hs_t_55_4 : hd_ft hs_sh 5 4 55 = 58 := hd_ft_eq hs_r_55_4
theorem hs_r_55_5 : hd_fR hs_sh 5 5 55 59 := ⟨_, hs_55, rfl⟩
theorem hs_t_55_5 : hd_ft hs_sh 5 5 55 = 59 := hd_ft_eq hs_r_55_5
theorem hs_r_55_6 : hd_fR hs_sh 5 6 55 60 := ⟨_, hs_55, rfl⟩
theorem hs_t_55_6 : hd_ft hs_sh 5 6 55 = 60 := hd_ft_eq hs_r_55_6
theorem hs_r_55_7 : hd_fR hs_sh 5 7 55 61 := ⟨_, hs_55, rfl⟩
theorem hs_t_55_7 : hd_ft hs_sh 5 7 55 = 61 := hd_ft_eq hs_r_55_7
theorem hs_r_55_8 : hd_fR hs_sh 5 8 55 62 := ⟨_, hs_55, rfl⟩
theorem hs_t_55_8 : hd_ft hs_sh 5 8 55 = 62 := hd_ft_eq hs_r_55_8
theorem hs_r_55_9 : hd_fR hs_sh 5 9 55 63 := ⟨_, hs_55, rfl⟩
theorem hs_t_55_9 : hd_ft hs_sh 5 9 55 = 63 := hd_ft_eq hs_r_55_9
theorem hs_56 : hs_sh[56]? = some (.inr (0, 8)) := rfl
theorem hs_i_56 (i : Int32) : hd_in hs_sh 0 56 i ↔ vp_in i 8 := ⟨fun ⟨n, h1, h2⟩ => by rw [hs_56] at h1; cases h1; exact h2, fun h => ⟨_, hs_56, h⟩⟩
theorem hs_l_56 : hd_len hs_sh 56 = 8 := rfl
theorem hs_57 : hs_sh[57]? = some (.inr (0, 8)) := rfl
theorem hs_i_57 (i : Int32) : hd_in hs_sh 0 57 i ↔ vp_in i 8 := ⟨fun ⟨n, h1, h2⟩ => by rw [hs_57] at h1; cases h1; exact h2, fun h => ⟨_, hs_57, h⟩⟩
theorem hs_l_57 : hd_len hs_sh 57 = 8 := rfl
theorem hs_58 : hs_sh[58]? = some (.inr (0, 8)) := rfl
theorem hs_i_58 (i : Int32) : hd_in hs_sh 0 58 i ↔ vp_in i 8 := ⟨fun ⟨n, h1, h2⟩ => by rw [hs_58] at h1; cases h1; exact h2, fun h => ⟨_, hs_58, h⟩⟩
theorem hs_l_58 : hd_len hs_sh 58 = 8 := rfl
theorem hs_59 : hs_sh[59]? = some (.inr (0, 7)) := rfl
theorem hs_i_59 (i : Int32) : hd_in hs_sh 0 59 i ↔ vp_in i 7 := ⟨fun ⟨n, h1, h2⟩ => by rw [hs_59] at h1; cases h1; exact h2, fun h => ⟨_, hs_59, h⟩⟩
theorem hs_l_59 : hd_len hs_sh 59 = 7 := rfl
theorem hs_60 : hs_sh[60]? = some (.inr (0, 7)) := rfl
theorem hs_i_60 (i : Int32) : hd_in hs_sh 0 60 i ↔ vp_in i 7 := ⟨fun ⟨n, h1, h2⟩ => by rw [hs_60] at h1; cases h1; exact h2, fun h => ⟨_, hs_60, h⟩⟩
theorem hs_l_60 : hd_len hs_sh 60 = 7 := rfl
theorem hs_61 : hs_sh[61]? = some (.inr (0, 7)) := rfl
theorem hs_i_61 (i : Int32) : hd_in hs_sh 0 61 i ↔ vp_in i 7 := ⟨fun ⟨n, h1, h2⟩ => by rw [hs_61] at h1; cases h1; exact h2, fun h => ⟨_, hs_61, h⟩⟩
theorem hs_l_61 : hd_len hs_sh 61 = 7 := rfl
theorem hs_62 : hs_sh[62]? = some (.inr (0, 7)) := rfl
theorem hs_i_62 (i : Int32) : hd_in hs_sh 0 62 i ↔ vp_in i 7 := ⟨fun ⟨n, h1, h2⟩ => by rw [hs_62] at h1; cases h1; exact h2, fun h => ⟨_, hs_62, h⟩⟩
theorem hs_l_62 : hd_len hs_sh 62 = 7 := rfl
theorem hs_63 : hs_sh[63]? = some (.inr (0, 56)) := rfl
theorem hs_i_63 (i : Int32) : hd_in hs_sh 0 63 i ↔ vp_in i 56 := ⟨fun ⟨n, h1, h2⟩ => by rw [hs_63] at h1; cases h1; exact h2, fun h => ⟨_, hs_63, h⟩⟩
theorem hs_l_63 : hd_len hs_sh 63 = 56 := rfl
theorem hs_64 : hs_sh[64]? = some (.inl (5, [none, none, some 65, some 66, some 67, some 68, some 69, some 70, some 71, some 72])) := rfl
theorem hs_o_64 : hd_isO hs_sh 5 64 := ⟨_, hs_64⟩
theorem hs_f_64_0 : hd_fI hs_sh 5 0 64 := ⟨_, hs_64, rfl⟩
theorem hs_f_64_1 : hd_fI hs_sh 5 1 64 := ⟨_, hs_64, rfl⟩
theorem hs_r_64_2 : hd_fR hs_sh 5 2 64 65 := ⟨_, hs_64, rfl⟩
theorem hs_t_64_2 : hd_ft hs_sh 5 2 64 = 65 := hd_ft_eq hs_r_64_2
theorem hs_r_64_3 : hd_fR hs_sh 5 3 64 66 := ⟨_, hs_64, rfl⟩
theorem hs_t_64_3 : hd_ft hs_sh 5 3 64 = 66 := hd_ft_eq hs_r_64_3
theorem hs_r_64_4 : hd_fR hs_sh 5 4 64 67 := ⟨_, hs_64, rfl⟩
theorem hs_t_64_4 : hd_ft hs_sh 5 4 64 = 67 := hd_ft_eq hs_r_64_4
theorem hs_r_64_5 : hd_fR hs_sh 5 5 64 68 := ⟨_, hs_64, rfl⟩
theorem hs_t_64_5 : hd_ft hs_sh 5 5 64 = 68 := hd_ft_eq hs_r_64_5
theorem hs_r_64_6 : hd_fR hs_sh 5 6 64 69 := ⟨_, hs_64, rfl⟩
theorem hs_t_64_6 : hd_ft hs_sh 5 6 64 = 69 := hd_ft_eq hs_r_64_6
theorem hs_r_64_7 : hd_fR hs_sh 5 7 64 70 := ⟨_, hs_64, rfl⟩
theorem hs_t_64_7 : hd_ft hs_sh 5 7 64 = 70 := hd_ft_eq hs_r_64_7
theorem hs_r_64_8 : hd_fR hs_sh 5 8 64 71 := ⟨_, hs_64, rfl⟩
theorem hs_t_64_8 : hd_ft hs_sh 5 8 64 = 71 := hd_ft_eq hs_r_64_8
theorem hs_r_64_9 : hd_fR hs_sh 5 9 64 72 := ⟨_, hs_64, rfl⟩
theorem hs_t_64_9 : hd_ft hs_sh 5 9 64 = 72 := hd_ft_eq hs_r_64_9
theorem hs_65 : hs_sh[65]? = some (.inr (0, 8)) := rfl
theorem hs_i_65 (i : Int32) : hd_in hs_sh 0 65 i ↔ vp_in i 8 := ⟨fun ⟨n, h1, h2⟩ => by rw [hs_65] at h1; cases h1; exact h2, fun h => ⟨_, hs_65, h⟩⟩
theorem hs_l_65 : hd_len hs_sh 65 = 8 := rfl
theorem hs_66 : hs_sh[66]? = some (.inr (0, 8)) := rfl
theorem hs_i_66 (i : Int32) : hd_in hs_sh 0 66 i ↔ vp_in i 8 := ⟨fun ⟨n, h1, h2⟩ => by rw [hs_66] at h1; cases h1; exact h2, fun h => ⟨_, hs_66, h⟩⟩
theorem hs_l_66 : hd_len hs_sh 66 = 8 := rfl
theorem hs_67 : hs_sh[67]? = some (.inr (0, 8)) := rfl
theorem hs_i_67 (i : Int32) : hd_in hs_sh 0 67 i ↔ vp_in i 8 := ⟨fun ⟨n, h1, h2⟩ => by rw [hs_67] at h1; cases h1; exact h2, fun h => ⟨_, hs_67, h⟩⟩
theorem hs_l_67 : hd_len hs_sh 67 = 8 := rfl
theorem hs_68 : hs_sh[68]? = some (.inr (0, 7)) := rfl
theorem hs_i_68 (i : Int32) : hd_in hs_sh 0 68 i ↔ vp_in i 7 := ⟨fun ⟨n, h1, h2⟩ => by rw [hs_68] at h1; cases h1; exact h2, fun h => ⟨_, hs_68, h⟩⟩
theorem hs_l_68 : hd_len hs_sh 68 = 7 := rfl
theorem hs_69 : hs_sh[69]? = some (.inr (0, 7)) := rfl
theorem hs_i_69 (i : Int32) : hd_in hs_sh 0 69 i ↔ vp_in i 7 := ⟨fun ⟨n, h1, h2⟩ => by rw [hs_69] at h1; cases h1; exact h2, fun h => ⟨_, hs_69, h⟩⟩
theorem hs_l_69 : hd_len hs_sh 69 = 7 := rfl
theorem hs_70 : hs_sh[70]? = some (.inr (0, 7)) := rfl
theorem hs_i_70 (i : Int32) : hd_in hs_sh 0 70 i ↔ vp_in i 7 := ⟨fun ⟨n, h1, h2⟩ => by rw [hs_70] at h1; cases h1; exact h2, fun h => ⟨_, hs_70, h⟩⟩
theorem hs_l_70 : hd_len hs_sh 70 = 7 := rfl
theorem hs_71 : hs_sh[71]? = some (.inr (0, 7)) := rfl
theorem hs_i_71 (i : Int32) : hd_in hs_sh 0 71 i ↔ vp_in i 7 := ⟨fun ⟨n, h1, h2⟩ => by rw [hs_71] at h1; cases h1; exact h2, fun h => ⟨_, hs_71, h⟩⟩
theorem hs_l_71 : hd_len hs_sh 71 = 7 := rfl
theorem hs_72 : hs_sh[72]? = some (.inr (0, 56)) := rfl
theorem hs_i_72 (i : Int32) : hd_in hs_sh 0 72 i ↔ vp_in i 56 := ⟨fun ⟨n, h1, h2⟩ => by rw [hs_72] at h1; cases h1; exact h2, fun h => ⟨_, hs_72, h⟩⟩
theorem hs_l_72 : hd_len hs_sh 72 = 56 := rfl
theorem hs_73 : hs_sh[73]? = some (.inl (5, [none, none, some 74, some 75, some 76, some 77, some 78, some 79, some 80, some 81])) := rfl
theorem hs_o_73 : hd_isO hs_sh 5 73 := ⟨_, hs_73⟩
theorem hs_f_73_0 : hd_fI hs_sh 5 0 73 := ⟨_, hs_73, rfl⟩
theorem hs_f_73_1 : hd_fI hs_sh 5 1 73 := ⟨_, hs_73, rfl⟩
theorem hs_r_73_2 : hd_fR hs_sh 5 2 73 74 := ⟨_, hs_73, rfl⟩
theorem hs_t_73_2 : hd_ft hs_sh 5 2 73 = 74 := hd_ft_eq hs_r_73_2
theorem hs_r_73_3 : hd_fR hs_sh 5 3 73 75 := ⟨_, hs_73, rfl⟩
theorem hs_t_73_3 : hd_ft hs_sh 5 3 73 = 75 := hd_ft_eq hs_r_73_3
theorem hs_r_73_4 : hd_fR hs_sh 5 4 73 76 := ⟨_, hs_73, rfl⟩
theorem hs_t_73_4 : hd_ft hs_sh 5 4 73 = 76 := hd_ft_eq hs_r_73_4
theorem hs_r_73_5 : hd_fR hs_sh 5 5 73 77 := ⟨_, hs_73, rfl⟩
theorem hs_t_73_5 : hd_ft hs_sh 5 5 73 = 77 := hd_ft_eq hs_r_73_5
theorem hs_r_73_6 : hd_fR hs_sh 5 6 73 78 := ⟨_, hs_73, rfl⟩
theorem hs_t_73_6 : hd_ft hs_sh 5 6 73 = 78 := hd_ft_eq hs_r_73_6
theorem hs_r_73_7 : hd_fR hs_sh 5 7 73 79 := ⟨_, hs_73, rfl⟩
theorem hs_t_73_7 : hd_ft hs_sh 5 7 73 = 79 := hd_ft_eq hs_r_73_7
theorem hs_r_73_8 : hd_fR hs_sh 5 8 73 80 := ⟨_, hs_73, rfl⟩
theorem hs_t_73_8 : hd_ft hs_sh 5 8 73 = 80 := hd_ft_eq hs_r_73_8
theorem hs_r_73_9 : hd_fR hs_sh 5 9 73 81 := ⟨_, hs_73, rfl⟩
theorem hs_t_73_9 : hd_ft hs_sh 5 9 73 = 81 := hd_ft_eq hs_r_73_9
theorem hs_74 : hs_sh[74]? = some (.inr (0, 8)) := rfl
theorem hs_i_74 (i : Int32) : hd_in hs_sh 0 74 i ↔ vp_in i 8 := ⟨fun ⟨n, h1, h2⟩ => by rw [hs_74] at h1; cases h1; exact h2, fun h => ⟨_, hs_74, h⟩⟩
theorem hs_l_74 : hd_len hs_sh 74 = 8 := rfl
theorem hs_75 : hs_sh[75]? = some (.inr (0, 8)) := rfl
theorem hs_i_75 (i : Int32) : hd_in hs_sh 0 75 i ↔ vp_in i 8 := ⟨fun ⟨n, h1, h2⟩ => by rw [hs_75] at h1; cases h1; exact h2, fun h => ⟨_, hs_75, h⟩⟩
theorem hs_l_75 : hd_len hs_sh 75 = 8 := rfl
theorem hs_76 : hs_sh[76]? = some (.inr (0, 8)) := rfl
theorem hs_i_76 (i : Int32) : hd_in hs_sh 0 76 i ↔ vp_in i 8 := ⟨fun ⟨n, h1, h2⟩ => by rw [hs_76] at h1; cases h1; exact h2, fun h => ⟨_, hs_76, h⟩⟩
theorem hs_l_76 : hd_len hs_sh 76 = 8 := rfl
theorem hs_77 : hs_sh[77]? = some (.inr (0, 7)) := rfl
theorem hs_i_77 (i : Int32) : hd_in hs_sh 0 77 i ↔ vp_in i 7 := ⟨fun ⟨n, h1, h2⟩ => by rw [hs_77] at h1; cases h1; exact h2, fun h => ⟨_, hs_77, h⟩⟩
theorem hs_l_77 : hd_len hs_sh 77 = 7 := rfl
theorem hs_78 : hs_sh[78]? = some (.inr (0, 7)) := rfl
theorem hs_i_78 (i : Int32) : hd_in hs_sh 0 78 i ↔ vp_in i 7 := ⟨fun ⟨n, h1, h2⟩ => by rw [hs_78] at h1; cases h1; exact h2, fun h => ⟨_, hs_78, h⟩⟩
theorem hs_l_78 : hd_len hs_sh 78 = 7 := rfl
theorem hs_79 : hs_sh[79]? = some (.inr (0, 7)) := rfl
theorem hs_i_79 (i : Int32) : hd_in hs_sh 0 79 i ↔ vp_in i 7 := ⟨fun ⟨n, h1, h2⟩ => by rw [hs_79] at h1; cases h1; exact h2, fun h => ⟨_, hs_79, h⟩⟩
theorem hs_l_79 : hd_len hs_sh 79 = 7 := rfl
theorem hs_80 : hs_sh[80]? = some (.inr (0, 7)) := rfl
theorem hs_i_80 (i : Int32) : hd_in hs_sh 0 80 i ↔ vp_in i 7 := ⟨fun ⟨n, h1, h2⟩ => by rw [hs_80] at h1; cases h1; exact h2, fun h => ⟨_, hs_80, h⟩⟩
theorem hs_l_80 : hd_len hs_sh 80 = 7 := rfl
theorem hs_81 : hs_sh[81]? = some (.inr (0, 56)) := rfl
theorem hs_i_81 (i : Int32) : hd_in hs_sh 0 81 i ↔ vp_in i 56 := ⟨fun ⟨n, h1, h2⟩ => by rw [hs_81] at h1; cases h1; exact h2, fun h => ⟨_, hs_81, h⟩⟩
theorem hs_l_81 : hd_len hs_sh 81 = 56 := rfl
theorem hs_82 : hs_sh[82]? = some (.inl (4, [some 83, none])) := rfl
theorem hs_o_82 : hd_isO hs_sh 4 82 := ⟨_, hs_82⟩
theorem hs_r_82_0 : hd_fR hs_sh 4 0 82 83 := ⟨_, hs_82, rfl⟩
theorem hs_t_82_0 : hd_ft hs_sh 4 0 82 = 83 := hd_ft_eq hs_r_82_0
theorem hs_f_82_1 : hd_fI hs_sh 4 1 82 := ⟨_, hs_82, rfl⟩
theorem hs_83 : hs_sh[83]? = some (.inr (2, 8)) := rfl
theorem hs_i_83 (i : Int32) : hd_in hs_sh 2 83 i ↔ vp_in i 8 := ⟨fun ⟨n, h1, h2⟩ => by rw [hs_83] at h1; cases h1; exact h2, fun h => ⟨_, hs_83, h⟩⟩
theorem hs_l_83 : hd_len hs_sh 83 = 8 := rfl
theorem hs_84 : hs_sh[84]? = some (.inl (6, [some 1, some 85, some 86, some 87, none])) := rfl
theorem hs_o_84 : hd_isO hs_sh 6 84 := ⟨_, hs_84⟩
theorem hs_r_84_0 : hd_fR hs_sh 6 0 84 1 := ⟨_, hs_84, rfl⟩
theorem hs_t_84_0 : hd_ft hs_sh 6 0 84 = 1 := hd_ft_eq hs_r_84_0
theorem hs_r_84_1 : hd_fR hs_sh 6 1 84 85 := ⟨_, hs_84, rfl⟩
theorem hs_t_84_1 : hd_ft hs_sh 6 1 84 = 85 := hd_ft_eq hs_r_84_1
theorem hs_r_84_2 : hd_fR hs_sh 6 2 84 86 := ⟨_, hs_84, rfl⟩
theorem hs_t_84_2 : hd_ft hs_sh 6 2 84 = 86 := hd_ft_eq hs_r_84_2
theorem hs_r_84_3 : hd_fR hs_sh 6 3 84 87 := ⟨_, hs_84, rfl⟩
theorem hs_t_84_3 : hd_ft hs_sh 6 3 84 = 87 := hd_ft_eq hs_r_84_3
theorem hs_f_84_4 : hd_fI hs_sh 6 4 84 := ⟨_, hs_84, rfl⟩
theorem hs_85 : hs_sh[85]? = some (.inr (0, 1024)) := rfl
theorem hs_i_85 (i : Int32) : hd_in hs_sh 0 85 i ↔ vp_in i 1024 := ⟨fun ⟨n, h1, h2⟩ => by rw [hs_85] at h1; cases h1; exact h2, fun h => ⟨_, hs_85, h⟩⟩
theorem hs_l_85 : hd_len hs_sh 85 = 1024 := rfl
theorem hs_86 : hs_sh[86]? = some (.inr (0, 128)) := rfl
theorem hs_i_86 (i : Int32) : hd_in hs_sh 0 86 i ↔ vp_in i 128 := ⟨fun ⟨n, h1, h2⟩ => by rw [hs_86] at h1; cases h1; exact h2, fun h => ⟨_, hs_86, h⟩⟩
theorem hs_l_86 : hd_len hs_sh 86 = 128 := rfl
theorem hs_87 : hs_sh[87]? = some (.inr (0, 128)) := rfl
theorem hs_i_87 (i : Int32) : hd_in hs_sh 0 87 i ↔ vp_in i 128 := ⟨fun ⟨n, h1, h2⟩ => by rw [hs_87] at h1; cases h1; exact h2, fun h => ⟨_, hs_87, h⟩⟩
theorem hs_l_87 : hd_len hs_sh 87 = 128 := rfl
theorem hs_88 : hs_sh[88]? = some (.inl (7, [some 1, some 84, some 89, some 90, some 91, some 92, some 93, some 94, none, none])) := rfl
theorem hs_o_88 : hd_isO hs_sh 7 88 := ⟨_, hs_88⟩
theorem hs_r_88_0 : hd_fR hs_sh 7 0 88 1 := ⟨_, hs_88, rfl⟩
theorem hs_t_88_0 : hd_ft hs_sh 7 0 88 = 1 := hd_ft_eq hs_r_88_0
theorem hs_r_88_1 : hd_fR hs_sh 7 1 88 84 := ⟨_, hs_88, rfl⟩
theorem hs_t_88_1 : hd_ft hs_sh 7 1 88 = 84 := hd_ft_eq hs_r_88_1
theorem hs_r_88_2 : hd_fR hs_sh 7 2 88 89 := ⟨_, hs_88, rfl⟩
theorem hs_t_88_2 : hd_ft hs_sh 7 2 88 = 89 := hd_ft_eq hs_r_88_2
theorem hs_r_88_3 : hd_fR hs_sh 7 3 88 90 := ⟨_, hs_88, rfl⟩
theorem hs_t_88_3 : hd_ft hs_sh 7 3 88 = 90 := hd_ft_eq hs_r_88_3
theorem hs_r_88_4 : hd_fR hs_sh 7 4 88 91 := ⟨_, hs_88, rfl⟩
theorem hs_t_88_4 : hd_ft hs_sh 7 4 88 = 91 := hd_ft_eq hs_r_88_4
theorem hs_r_88_5 : hd_fR hs_sh 7 5 88 92 := ⟨_, hs_88, rfl⟩
theorem hs_t_88_5 : hd_ft hs_sh 7 5 88 = 92 := hd_ft_eq hs_r_88_5
theorem hs_r_88_6 : hd_fR hs_sh 7 6 88 93 := ⟨_, hs_88, rfl⟩
theorem hs_t_88_6 : hd_ft hs_sh 7 6 88 = 93 := hd_ft_eq hs_r_88_6
theorem hs_r_88_7 : hd_fR hs_sh 7 7 88 94 := ⟨_, hs_88, rfl⟩
theorem hs_t_88_7 : hd_ft hs_sh 7 7 88 = 94 := hd_ft_eq hs_r_88_7
theorem hs_f_88_8 : hd_fI hs_sh 7 8 88 := ⟨_, hs_88, rfl⟩
theorem hs_f_88_9 : hd_fI hs_sh 7 9 88 := ⟨_, hs_88, rfl⟩
theorem hs_89 : hs_sh[89]? = some (.inr (1, 128)) := rfl
theorem hs_i_89 (i : Int32) : hd_in hs_sh 1 89 i ↔ vp_in i 128 := ⟨fun ⟨n, h1, h2⟩ => by rw [hs_89] at h1; cases h1; exact h2, fun h => ⟨_, hs_89, h⟩⟩
theorem hs_l_89 : hd_len hs_sh 89 = 128 := rfl
theorem hs_90 : hs_sh[90]? = some (.inr (3, 8)) := rfl
theorem hs_i_90 (i : Int32) : hd_in hs_sh 3 90 i ↔ vp_in i 8 := ⟨fun ⟨n, h1, h2⟩ => by rw [hs_90] at h1; cases h1; exact h2, fun h => ⟨_, hs_90, h⟩⟩
theorem hs_l_90 : hd_len hs_sh 90 = 8 := rfl
theorem hs_91 : hs_sh[91]? = some (.inr (1, 56)) := rfl
theorem hs_i_91 (i : Int32) : hd_in hs_sh 1 91 i ↔ vp_in i 56 := ⟨fun ⟨n, h1, h2⟩ => by rw [hs_91] at h1; cases h1; exact h2, fun h => ⟨_, hs_91, h⟩⟩
theorem hs_l_91 : hd_len hs_sh 91 = 56 := rfl
theorem hs_92 : hs_sh[92]? = some (.inr (1, 256)) := rfl
theorem hs_i_92 (i : Int32) : hd_in hs_sh 1 92 i ↔ vp_in i 256 := ⟨fun ⟨n, h1, h2⟩ => by rw [hs_92] at h1; cases h1; exact h2, fun h => ⟨_, hs_92, h⟩⟩
theorem hs_l_92 : hd_len hs_sh 92 = 256 := rfl
theorem hs_93 : hs_sh[93]? = some (.inr (0, 256)) := rfl
theorem hs_i_93 (i : Int32) : hd_in hs_sh 0 93 i ↔ vp_in i 256 := ⟨fun ⟨n, h1, h2⟩ => by rw [hs_93] at h1; cases h1; exact h2, fun h => ⟨_, hs_93, h⟩⟩
theorem hs_l_93 : hd_len hs_sh 93 = 256 := rfl
theorem hs_94 : hs_sh[94]? = some (.inr (0, 7)) := rfl
theorem hs_i_94 (i : Int32) : hd_in hs_sh 0 94 i ↔ vp_in i 7 := ⟨fun ⟨n, h1, h2⟩ => by rw [hs_94] at h1; cases h1; exact h2, fun h => ⟨_, hs_94, h⟩⟩
theorem hs_l_94 : hd_len hs_sh 94 = 7 := rfl
theorem hs_95 : hs_sh[95]? = some (.inr (1, 256)) := rfl
theorem hs_i_95 (i : Int32) : hd_in hs_sh 1 95 i ↔ vp_in i 256 := ⟨fun ⟨n, h1, h2⟩ => by rw [hs_95] at h1; cases h1; exact h2, fun h => ⟨_, hs_95, h⟩⟩
theorem hs_l_95 : hd_len hs_sh 95 = 256 := rfl
theorem hs_96 : hs_sh[96]? = some (.inr (1, 256)) := rfl
theorem hs_i_96 (i : Int32) : hd_in hs_sh 1 96 i ↔ vp_in i 256 := ⟨fun ⟨n, h1, h2⟩ => by rw [hs_96] at h1; cases h1; exact h2, fun h => ⟨_, hs_96, h⟩⟩
theorem hs_l_96 : hd_len hs_sh 96 = 256 := rfl
theorem hs_97 : hs_sh[97]? = some (.inr (1, 256)) := rfl
theorem hs_i_97 (i : Int32) : hd_in hs_sh 1 97 i ↔ vp_in i 256 := ⟨fun ⟨n, h1, h2⟩ => by rw [hs_97] at h1; cases h1; exact h2, fun h => ⟨_, hs_97, h⟩⟩
theorem hs_l_97 : hd_len hs_sh 97 = 256 := rfl
theorem hs_98 : hs_sh[98]? = some (.inr (1, 256)) := rfl
theorem hs_i_98 (i : Int32) : hd_in hs_sh 1 98 i ↔ vp_in i 256 := ⟨fun ⟨n, h1, h2⟩ => by rw [hs_98] at h1; cases h1; exact h2, fun h => ⟨_, hs_98, h⟩⟩
theorem hs_l_98 : hd_len hs_sh 98 = 256 := rfl
theorem hs_99 : hs_sh[99]? = some (.inr (1, 256)) := rfl
theorem hs_i_99 (i : Int32) : hd_in hs_sh 1 99 i ↔ vp_in i 256 := ⟨fun ⟨n, h1, h2⟩ => by rw [hs_99] at h1; cases h1; exact h2, fun h => ⟨_, hs_99, h⟩⟩
theorem hs_l_99 : hd_len hs_sh 99 = 256 := rfl
theorem hs_100 : hs_sh[100]? = some (.inr (1, 256)) := rfl
theorem hs_i_100 (i : Int32) : hd_in hs_sh 1 100 i ↔ vp_in i 256 := ⟨fun ⟨n, h1, h2⟩ => by rw [hs_100] at h1; cases h1; exact h2, fun h => ⟨_, hs_100, h⟩⟩
theorem hs_l_100 : hd_len hs_sh 100 = 256 := rfl
theorem hs_101 : hs_sh[101]? = some (.inr (1, 256)) := rfl
theorem hs_i_101 (i : Int32) : hd_in hs_sh 1 101 i ↔ vp_in i 256 := ⟨fun ⟨n, h1, h2⟩ => by rw [hs_101] at h1; cases h1; exact h2, fun h => ⟨_, hs_101, h⟩⟩
theorem hs_l_101 : hd_len hs_sh 101 = 256 := rfl
theorem hs_102 : hs_sh[102]? = some (.inr (1, 256)) := rfl
theorem hs_i_102 (i : Int32) : hd_in hs_sh 1 102 i ↔ vp_in i 256 := ⟨fun ⟨n, h1, h2⟩ => by rw [hs_102] at h1; cases h1; exact h2, fun h => ⟨_, hs_102, h⟩⟩
theorem hs_l_102 : hd_len hs_sh 102 = 256 := rfl
theorem hs_103 : hs_sh[103]? = some (.inl (1, [some 1, some 84, some 88, some 104, none])) := rfl
theorem hs_o_103 : hd_isO hs_sh 1 103 := ⟨_, hs_103⟩
theorem hs_r_103_0 : hd_fR hs_sh 1 0 103 1 := ⟨_, hs_103, rfl⟩
theorem hs_t_103_0 : hd_ft hs_sh 1 0 103 = 1 := hd_ft_eq hs_r_103_0
theorem hs_r_103_1 : hd_fR hs_sh 1 1 103 84 := ⟨_, hs_103, rfl⟩
theorem hs_t_103_1 : hd_ft hs_sh 1 1 103 = 84 := hd_ft_eq hs_r_103_1
theorem hs_r_103_2 : hd_fR hs_sh 1 2 103 88 := ⟨_, hs_103, rfl⟩
theorem hs_t_103_2 : hd_ft hs_sh 1 2 103 = 88 := hd_ft_eq hs_r_103_2
theorem hs_r_103_3 : hd_fR hs_sh 1 3 103 104 := ⟨_, hs_103, rfl⟩
theorem hs_t_103_3 : hd_ft hs_sh 1 3 103 = 104 := hd_ft_eq hs_r_103_3
theorem hs_f_103_4 : hd_fI hs_sh 1 4 103 := ⟨_, hs_103, rfl⟩
theorem hs_104 : hs_sh[104]? = some (.inr (0, 128)) := rfl
theorem hs_i_104 (i : Int32) : hd_in hs_sh 0 104 i ↔ vp_in i 128 := ⟨fun ⟨n, h1, h2⟩ => by rw [hs_104] at h1; cases h1; exact h2, fun h => ⟨_, hs_104, h⟩⟩
theorem hs_l_104 : hd_len hs_sh 104 = 128 := rfl
theorem hs_105 : hs_sh[105]? = some (.inl (0, [some 1, some 106, some 107])) := rfl
theorem hs_o_105 : hd_isO hs_sh 0 105 := ⟨_, hs_105⟩
theorem hs_r_105_0 : hd_fR hs_sh 0 0 105 1 := ⟨_, hs_105, rfl⟩
theorem hs_t_105_0 : hd_ft hs_sh 0 0 105 = 1 := hd_ft_eq hs_r_105_0
theorem hs_r_105_1 : hd_fR hs_sh 0 1 105 106 := ⟨_, hs_105, rfl⟩
theorem hs_t_105_1 : hd_ft hs_sh 0 1 105 = 106 := hd_ft_eq hs_r_105_1
theorem hs_r_105_2 : hd_fR hs_sh 0 2 105 107 := ⟨_, hs_105, rfl⟩
theorem hs_t_105_2 : hd_ft hs_sh 0 2 105 = 107 := hd_ft_eq hs_r_105_2
theorem hs_106 : hs_sh[106]? = some (.inr (0, 8)) := rfl
theorem hs_i_106 (i : Int32) : hd_in hs_sh 0 106 i ↔ vp_in i 8 := ⟨fun ⟨n, h1, h2⟩ => by rw [hs_106] at h1; cases h1; exact h2, fun h => ⟨_, hs_106, h⟩⟩
theorem hs_l_106 : hd_len hs_sh 106 = 8 := rfl
theorem hs_107 : hs_sh[107]? = some (.inr (0, 7)) := rfl
theorem hs_i_107 (i : Int32) : hd_in hs_sh 0 107 i ↔ vp_in i 7 := ⟨fun ⟨n, h1, h2⟩ => by rw [hs_107] at h1; cases h1; exact h2, fun h => ⟨_, hs_107, h⟩⟩
theorem hs_l_107 : hd_len hs_sh 107 = 7 := rfl
theorem hs_108 : hs_sh[108]? = some (.inl (2, [some 1, some 84, some 109, some 110, none])) := rfl
theorem hs_o_108 : hd_isO hs_sh 2 108 := ⟨_, hs_108⟩
theorem hs_r_108_0 : hd_fR hs_sh 2 0 108 1 := ⟨_, hs_108, rfl⟩
theorem hs_t_108_0 : hd_ft hs_sh 2 0 108 = 1 := hd_ft_eq hs_r_108_0
theorem hs_r_108_1 : hd_fR hs_sh 2 1 108 84 := ⟨_, hs_108, rfl⟩
theorem hs_t_108_1 : hd_ft hs_sh 2 1 108 = 84 := hd_ft_eq hs_r_108_1
theorem hs_r_108_2 : hd_fR hs_sh 2 2 108 109 := ⟨_, hs_108, rfl⟩
theorem hs_t_108_2 : hd_ft hs_sh 2 2 108 = 109 := hd_ft_eq hs_r_108_2
theorem hs_r_108_3 : hd_fR hs_sh 2 3 108 110 := ⟨_, hs_108, rfl⟩
theorem hs_t_108_3 : hd_ft hs_sh 2 3 108 = 110 := hd_ft_eq hs_r_108_3
theorem hs_f_108_4 : hd_fI hs_sh 2 4 108 := ⟨_, hs_108, rfl⟩
theorem hs_109 : hs_sh[109]? = some (.inr (0, 256)) := rfl
theorem hs_i_109 (i : Int32) : hd_in hs_sh 0 109 i ↔ vp_in i 256 := ⟨fun ⟨n, h1, h2⟩ => by rw [hs_109] at h1; cases h1; exact h2, fun h => ⟨_, hs_109, h⟩⟩
theorem hs_l_109 : hd_len hs_sh 109 = 256 := rfl
theorem hs_110 : hs_sh[110]? = some (.inr (0, 256)) := rfl
theorem hs_i_110 (i : Int32) : hd_in hs_sh 0 110 i ↔ vp_in i 256 := ⟨fun ⟨n, h1, h2⟩ => by rw [hs_110] at h1; cases h1; exact h2, fun h => ⟨_, hs_110, h⟩⟩
theorem hs_l_110 : hd_len hs_sh 110 = 256 := rfl
theorem hs_111 : hs_sh[111]? = some (.inl (3, [some 1, some 112, none, none, none])) := rfl
theorem hs_o_111 : hd_isO hs_sh 3 111 := ⟨_, hs_111⟩
theorem hs_r_111_0 : hd_fR hs_sh 3 0 111 1 := ⟨_, hs_111, rfl⟩
theorem hs_t_111_0 : hd_ft hs_sh 3 0 111 = 1 := hd_ft_eq hs_r_111_0
theorem hs_r_111_1 : hd_fR hs_sh 3 1 111 112 := ⟨_, hs_111, rfl⟩
theorem hs_t_111_1 : hd_ft hs_sh 3 1 111 = 112 := hd_ft_eq hs_r_111_1
theorem hs_f_111_2 : hd_fI hs_sh 3 2 111 := ⟨_, hs_111, rfl⟩
theorem hs_f_111_3 : hd_fI hs_sh 3 3 111 := ⟨_, hs_111, rfl⟩
theorem hs_f_111_4 : hd_fI hs_sh 3 4 111 := ⟨_, hs_111, rfl⟩
theorem hs_112 : hs_sh[112]? = some (.inr (0, 8)) := rfl
theorem hs_i_112 (i : Int32) : hd_in hs_sh 0 112 i ↔ vp_in i 8 := ⟨fun ⟨n, h1, h2⟩ => by rw [hs_112] at h1; cases h1; exact h2, fun h => ⟨_, hs_112, h⟩⟩
theorem hs_l_112 : hd_len hs_sh 112 = 8 := rfl
theorem hs_113 : hs_sh[113]? = some (.inl (9, [none, none, none, some 114, some 115, some 116, some 117, some 118, some 119, some 120, some 121, some 122, none, none, none, some 123, none, some 124, some 125, some 126, some 127, none, none, none, some 128, none, some 129, none])) := rfl
theorem hs_o_113 : hd_isO hs_sh 9 113 := ⟨_, hs_113⟩
theorem hs_f_113_0 : hd_fI hs_sh 9 0 113 := ⟨_, hs_113, rfl⟩
theorem hs_f_113_1 : hd_fI hs_sh 9 1 113 := ⟨_, hs_113, rfl⟩
theorem hs_f_113_2 : hd_fI hs_sh 9 2 113 := ⟨_, hs_113, rfl⟩
theorem hs_r_113_3 : hd_fR hs_sh 9 3 113 114 := ⟨_, hs_113, rfl⟩
theorem hs_t_113_3 : hd_ft hs_sh 9 3 113 = 114 := hd_ft_eq hs_r_113_3
theorem hs_r_113_4 : hd_fR hs_sh 9 4 113 115 := ⟨_, hs_113, rfl⟩
theorem hs_t_113_4 : hd_ft hs_sh 9 4 113 = 115 := hd_ft_eq hs_r_113_4
theorem hs_r_113_5 : hd_fR hs_sh 9 5 113 116 := ⟨_, hs_113, rfl⟩
theorem hs_t_113_5 : hd_ft hs_sh 9 5 113 = 116 := hd_ft_eq hs_r_113_5
theorem hs_r_113_6 : hd_fR hs_sh 9 6 113 117 := ⟨_, hs_113, rfl⟩
theorem hs_t_113_6 : hd_ft hs_sh 9 6 113 = 117 := hd_ft_eq hs_r_113_6
theorem hs_r_113_7 : hd_fR hs_sh 9 7 113 118 := ⟨_, hs_113, rfl⟩
theorem hs_t_113_7 : hd_ft hs_sh 9 7 113 = 118 := hd_ft_eq hs_r_113_7
theorem hs_r_113_8 : hd_fR hs_sh 9 8 113 119 := ⟨_, hs_113, rfl⟩
theorem hs_t_113_8 : hd_ft hs_sh 9 8 113 = 119 := hd_ft_eq hs_r_113_8
theorem hs_r_113_9 : hd_fR hs_sh 9 9 113 120 := ⟨_, hs_113, rfl⟩
theorem hs_t_113_9 : hd_ft hs_sh 9 9 113 = 120 := hd_ft_eq hs_r_113_9
theorem hs_r_113_10 : hd_fR hs_sh 9 10 113 121 := ⟨_, hs_113, rfl⟩
theorem hs_t_113_10 : hd_ft hs_sh 9 10 113 = 121 := hd_ft_eq hs_r_113_10
theorem hs_r_113_11 : hd_fR hs_sh 9 11 113 122 := ⟨_, hs_113, rfl⟩
theorem hs_t_113_11 : hd_ft hs_sh 9 11 113 = 122 := hd_ft_eq hs_r_113_11
theorem hs_f_113_12 : hd_fI hs_sh 9 12 113 := ⟨_, hs_113, rfl⟩
theorem hs_f_113_13 : hd_fI hs_sh 9 13 113 := ⟨_, hs_113, rfl⟩
theorem hs_f_113_14 : hd_fI hs_sh 9 14 113 := ⟨_, hs_113, rfl⟩
theorem hs_r_113_15 : hd_fR hs_sh 9 15 113 123 := ⟨_, hs_113, rfl⟩
theorem hs_t_113_15 : hd_ft hs_sh 9 15 113 = 123 := hd_ft_eq hs_r_113_15
theorem hs_f_113_16 : hd_fI hs_sh 9 16 113 := ⟨_, hs_113, rfl⟩
theorem hs_r_113_17 : hd_fR hs_sh 9 17 113 124 := ⟨_, hs_113, rfl⟩
theorem hs_t_113_17 : hd_ft hs_sh 9 17 113 = 124 := hd_ft_eq hs_r_113_17
theorem hs_r_113_18 : hd_fR hs_sh 9 18 113 125 := ⟨_, hs_113, rfl⟩
theorem hs_t_113_18 : hd_ft hs_sh 9 18 113 = 125 := hd_ft_eq hs_r_113_18
theorem hs_r_113_19 : hd_fR hs_sh 9 19 113 126 := ⟨_, hs_113, rfl⟩
theorem hs_t_113_19 : hd_ft hs_sh 9 19 113 = 126 := hd_ft_eq hs_r_113_19
theorem hs_r_113_20 : hd_fR hs_sh 9 20 113 127 := ⟨_, hs_113, rfl⟩
theorem hs_t_113_20 : hd_ft hs_sh 9 20 113 = 127 := hd_ft_eq hs_r_113_20
theorem hs_f_113_21 : hd_fI hs_sh 9 21 113 := ⟨_, hs_113, rfl⟩
theorem hs_f_113_22 : hd_fI hs_sh 9 22 113 := ⟨_, hs_113, rfl⟩
theorem hs_f_113_23 : hd_fI hs_sh 9 23 113 := ⟨_, hs_113, rfl⟩
theorem hs_r_113_24 : hd_fR hs_sh 9 24 113 128 := ⟨_, hs_113, rfl⟩
theorem hs_t_113_24 : hd_ft hs_sh 9 24 113 = 128 := hd_ft_eq hs_r_113_24
theorem hs_f_113_25 : hd_fI hs_sh 9 25 113 := ⟨_, hs_113, rfl⟩
theorem hs_r_113_26 : hd_fR hs_sh 9 26 113 129 := ⟨_, hs_113, rfl⟩
theorem hs_t_113_26 : hd_ft hs_sh 9 26 113 = 129 := hd_ft_eq hs_r_113_26
theorem hs_f_113_27 : hd_fI hs_sh 9 27 113 := ⟨_, hs_113, rfl⟩
theorem hs_114 : hs_sh[114]? = some (.inr (0, 8)) := rfl
theorem hs_i_114 (i : Int32) : hd_in hs_sh 0 114 i ↔ vp_in i 8 := ⟨fun ⟨n, h1, h2⟩ => by rw [hs_114] at h1; cases h1; exact h2, fun h => ⟨_, hs_114, h⟩⟩
theorem hs_l_114 : hd_len hs_sh 114 = 8 := rfl
theorem hs_115 : hs_sh[115]? = some (.inr (0, 8)) := rfl
theorem hs_i_115 (i : Int32) : hd_in hs_sh 0 115 i ↔ vp_in i 8 := ⟨fun ⟨n, h1, h2⟩ => by rw [hs_115] at h1; cases h1; exact h2, fun h => ⟨_, hs_115, h⟩⟩
theorem hs_l_115 : hd_len hs_sh 115 = 8 := rfl
theorem hs_116 : hs_sh[116]? = some (.inr (0, 8)) := rfl
theorem hs_i_116 (i : Int32) : hd_in hs_sh 0 116 i ↔ vp_in i 8 := ⟨fun ⟨n, h1, h2⟩ => by rw [hs_116] at h1; cases h1; exact h2, fun h => ⟨_, hs_116, h⟩⟩
theorem hs_l_116 : hd_len hs_sh 116 = 8 := rfl
theorem hs_117 : hs_sh[117]? = some (.inr (0, 7)) := rfl
theorem hs_i_117 (i : Int32) : hd_in hs_sh 0 117 i ↔ vp_in i 7 := ⟨fun ⟨n, h1, h2⟩ => by rw [hs_117] at h1; cases h1; exact h2, fun h => ⟨_, hs_117, h⟩⟩
theorem hs_l_117 : hd_len hs_sh 117 = 7 := rfl
theorem hs_118 : hs_sh[118]? = some (.inr (0, 7)) := rfl
theorem hs_i_118 (i : Int32) : hd_in hs_sh 0 118 i ↔ vp_in i 7 := ⟨fun ⟨n, h1, h2⟩ => by rw [hs_118] at h1; cases h1; exact h2, fun h => ⟨_, hs_118, h⟩⟩
theorem hs_l_118 : hd_len hs_sh 118 = 7 := rfl
theorem hs_119 : hs_sh[119]? = some (.inr (0, 7)) := rfl
theorem hs_i_119 (i : Int32) : hd_in hs_sh 0 119 i ↔ vp_in i 7 := ⟨fun ⟨n, h1, h2⟩ => by rw [hs_119] at h1; cases h1; exact h2, fun h => ⟨_, hs_119, h⟩⟩
theorem hs_l_119 : hd_len hs_sh 119 = 7 := rfl
theorem hs_120 : hs_sh[120]? = some (.inr (0, 7)) := rfl
theorem hs_i_120 (i : Int32) : hd_in hs_sh 0 120 i ↔ vp_in i 7 := ⟨fun ⟨n, h1, h2⟩ => by rw [hs_120] at h1; cases h1; exact h2, fun h => ⟨_, hs_120, h⟩⟩
theorem hs_l_120 : hd_len hs_sh 120 = 7 := rfl
theorem hs_121 : hs_sh[121]? = some (.inr (0, 56)) := rfl
theorem hs_i_121 (i : Int32) : hd_in hs_sh 0 121 i ↔ vp_in i 56 := ⟨fun ⟨n, h1, h2⟩ => by rw [hs_121] at h1; cases h1; exact h2, fun h => ⟨_, hs_121, h⟩⟩
theorem hs_l_121 : hd_len hs_sh 121 = 56 := rfl
theorem hs_122 : hs_sh[122]? = some (.inr (0, 880)) := rfl
theorem hs_i_122 (i : Int32) : hd_in hs_sh 0 122 i ↔ vp_in i 880 := ⟨fun ⟨n, h1, h2⟩ => by rw [hs_122] at h1; cases h1; exact h2, fun h => ⟨_, hs_122, h⟩⟩
theorem hs_l_122 : hd_len hs_sh 122 = 880 := rfl
theorem hs_123 : hs_sh[123]? = some (.inr (0, 8)) := rfl
theorem hs_i_123 (i : Int32) : hd_in hs_sh 0 123 i ↔ vp_in i 8 := ⟨fun ⟨n, h1, h2⟩ => by rw [hs_123] at h1; cases h1; exact h2, fun h => ⟨_, hs_123, h⟩⟩
theorem hs_l_123 : hd_len hs_sh 123 = 8 := rfl
theorem hs_124 : hs_sh[124]? = some (.inr (0, 256)) := rfl
theorem hs_i_124 (i : Int32) : hd_in hs_sh 0 124 i ↔ vp_in i 256 := ⟨fun ⟨n, h1, h2⟩ => by rw [hs_124] at h1; cases h1; exact h2, fun h => ⟨_, hs_124, h⟩⟩
theorem hs_l_124 : hd_len hs_sh 124 = 256 := rfl
theorem hs_125 : hs_sh[125]? = some (.inr (0, 256)) := rfl
theorem hs_i_125 (i : Int32) : hd_in hs_sh 0 125 i ↔ vp_in i 256 := ⟨fun ⟨n, h1, h2⟩ => by rw [hs_125] at h1; cases h1; exact h2, fun h => ⟨_, hs_125, h⟩⟩
theorem hs_l_125 : hd_len hs_sh 125 = 256 := rfl
theorem hs_126 : hs_sh[126]? = some (.inr (0, 8)) := rfl
theorem hs_i_126 (i : Int32) : hd_in hs_sh 0 126 i ↔ vp_in i 8 := ⟨fun ⟨n, h1, h2⟩ => by rw [hs_126] at h1; cases h1; exact h2, fun h => ⟨_, hs_126, h⟩⟩
theorem hs_l_126 : hd_len hs_sh 126 = 8 := rfl
theorem hs_127 : hs_sh[127]? = some (.inr (0, 7)) := rfl
theorem hs_i_127 (i : Int32) : hd_in hs_sh 0 127 i ↔ vp_in i 7 := ⟨fun ⟨n, h1, h2⟩ => by rw [hs_127] at h1; cases h1; exact h2, fun h => ⟨_, hs_127, h⟩⟩
theorem hs_l_127 : hd_len hs_sh 127 = 7 := rfl
theorem hs_128 : hs_sh[128]? = some (.inr (0, 256)) := rfl
theorem hs_i_128 (i : Int32) : hd_in hs_sh 0 128 i ↔ vp_in i 256 := ⟨fun ⟨n, h1, h2⟩ => by rw [hs_128] at h1; cases h1; exact h2, fun h => ⟨_, hs_128, h⟩⟩
theorem hs_l_128 : hd_len hs_sh 128 = 256 := rfl
theorem hs_129 : hs_sh[129]? = some (.inr (0, 8)) := rfl
theorem hs_i_129 (i : Int32) : hd_in hs_sh 0 129 i ↔ vp_in i 8 := ⟨fun ⟨n, h1, h2⟩ => by rw [hs_129] at h1; cases h1; exact h2, fun h => ⟨_, hs_129, h⟩⟩
theorem hs_l_129 : hd_len hs_sh 129 = 8 := rfl
/-- the arms of a switch, one by one -/
def hd_Arms (κ : hd_Ctx) (p1 : Nat) (es : List Nat) (offs : Array Int) : Nat → List hd_xS → Prop
  | _, [] => True
  | k, s :: r => (∃ (o : Int) (t : Nat), offs[k]? = some o ∧ (p1 : Int) + o = (t : Int) ∧ hd_XS κ t es s) ∧ hd_Arms κ p1 es offs (k + 1) r
theorem hd_arms_at {κ : hd_Ctx} {p1 : Nat} {es : List Nat} {offs : Array Int} : ∀ (cs : List hd_xS) (k0 : Nat), hd_Arms κ p1 es offs k0 cs → ∀ (k : Nat) (s : hd_xS), cs[k]? = some s → ∃ (o : Int) (t : Nat), offs[k0 + k]? = some o ∧ (p1 : Int) + o = (t : Int) ∧ hd_XS κ t es s
  | [], _, _, k, s, h => by simp at h
  | a :: r, k0, hA, 0, s, h => by
    simp at h
    subst h
    exact hA.1
  | a :: r, k0, hA, k + 1, s, h => by
    have := hd_arms_at r (k0 + 1) hA.2 k s (by simpa using h)
    rw [show k0 + (k + 1) = k0 + 1 + k by omega]
    exact this
theorem hd_switch2 {κ : hd_Ctx} {cc : ByteArray} {own : String} {Ts : List Cond} {nL : Nat} {sh : List hd_K} {cl : List vw_C} {lv : Nat} (C : hd_Ok κ cc own Ts nL sh cl lv) {pc p1 len tgt : Nat} {es : List Nat} {a : hd_xI} {cs : List hd_xS} {df : hd_xS} {off hi : Int} {offs : Array Int} (ha : hd_XI κ pc p1 0 a) (d : decode cc p1 = .ok (.tableswitch off 0 hi offs, len)) (hhi : hi + 1 = (cs.length : Int)) (hlt : cs.length < 1000)
    (hcs : hd_Arms κ p1 es offs 0 cs) (ht : (p1 : Int) + off = (tgt : Int)) (hdf : hd_XS κ tgt es df) : hd_XS κ pc es (hd_sSw a cs df) :=
  hd_switch C ha d hhi hlt (fun k s h => by
    have := hd_arms_at cs 0 hcs k s h
    rw [Nat.zero_add] at this
    exact this) ht hdf
