/** Promise 4: every text of a few letters, and every text of a few tokens, against the plain model. */
public final class ShortTextsTest {
    private static final Due DUE = new Due("short texts");
    private static final String[] LETTERS = {"q", "p", "x", ";", " ", "0", "1", "2", "7", "y"};
    private static final String[] TOKENS = {
        "q", "p", "x", ";", "0 ", "1 ", "6 ", "7 ", "10 ", "11 ", "127 ", "128 ", "01 ", "p1 1;", "x0 6;", "q2;"};

    public static void main(String[] args) {
        everyTextOf(LETTERS, 4, "");
        everyTextOf(TOKENS, 4, "");
        DUE.end();
    }

    private static void everyTextOf(String[] parts, int most, String text) {
        check(text);
        if (most > 0) {
            for (String part : parts) {
                everyTextOf(parts, most - 1, text + part);
            }
        }
    }

    private static void check(String text) {
        PillowCourt x = new PillowCourt();
        PlainCourt plain = new PlainCourt();
        Due.type(x, text);
        for (int i = 0; i < text.length(); i++) {
            plain.ask("type", new int[] {text.charAt(i)});
        }
        DUE.is("court() of '" + text + "'", x.court(), plain.ask("court", new int[0]));
        for (int what = 0; what < 4; what++) {
            DUE.is("count(" + what + ") behind '" + text + "'", x.count(what), plain.ask("count", new int[] {what}));
        }
        for (int t = 0; t < 7; t++) {
            DUE.is("clashes(" + t + ") behind '" + text + "'", x.clashes(t), plain.ask("clashes", new int[] {t}));
        }
        for (int what = 0; what < 4; what++) {
            DUE.is("person(0, " + what + ") behind '" + text + "'", x.person(0, what), plain.ask("person", new int[] {0, what}));
        }
    }
}
