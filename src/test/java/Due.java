/** Counts answers that are not the ones that are due, and tells the promise and the sentence that they break. */
final class Due {
    private String about = "";
    private int sentences = 0;
    private int asked = 0;
    private int wrong = 0;

    void promise(int number) {
        about = "promise " + number;
    }

    /** What follows tests one sentence of the document: where it stands, and its words. */
    void sentence(String where, String words) {
        sentences++;
        about = where + " \"" + words + "\"";
    }

    void is(String call, long got, long want) {
        asked++;
        if (got != want) {
            wrong++;
            System.out.println(about + ": " + call + " answered " + got + ", due is " + want);
        }
    }

    void isTrue(String what, boolean so) {
        is(what, so ? 1 : 0, 1);
    }

    void end(String name) {
        String of = sentences == 0 ? "" : " of " + sentences + " sentences";
        System.out.println(name + ": " + asked + " answers" + of + " asked for, " + wrong + " wrong");
        if (wrong != 0) {
            System.exit(1);
        }
    }
}
