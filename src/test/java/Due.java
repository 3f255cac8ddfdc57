/** What a test of the project uses: it counts the answers that are not due. */
final class Due {
    private final String title;
    private int asked = 0;
    private int wrong = 0;

    Due(String title) {
        this.title = title;
    }

    void is(String call, long got, long want) {
        asked++;
        if (got != want) {
            wrong++;
            System.out.println(title + ": " + call + " answered " + got + ", due is " + want);
        }
    }

    void is(String call, String got, String want) {
        asked++;
        if (!got.equals(want)) {
            wrong++;
            System.out.println(title + ": " + call + " answered\n " + got + "\ndue is\n " + want);
        }
    }

    /** Prints what came out, and ends the program with 1 if an answer was wrong. */
    void end() {
        System.out.println(title + ": " + asked + " answers, " + wrong + " wrong");
        if (wrong != 0) {
            System.exit(1);
        }
    }

    static void type(PillowCourt x, String text) {
        for (int i = 0; i < text.length(); i++) {
            x.type(text.charAt(i));
        }
    }

    /** A new object that has read a text; the text must be without a fault. */
    static PillowCourt told(String text) {
        PillowCourt x = new PillowCourt();
        type(x, text);
        if (x.court() < 0) {
            throw new IllegalStateException("a test's text has a fault: " + text);
        }
        return x;
    }

    /** What court() answers to a text on a new object. */
    static int read(String text) {
        PillowCourt x = new PillowCourt();
        type(x, text);
        return x.court();
    }
}
