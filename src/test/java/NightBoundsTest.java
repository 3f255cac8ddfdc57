/** The boundary cases of promises 22 to 26: nights to come, what is noted, which draw, the odds. */
public final class NightBoundsTest {
    private static final Due DUE = new Due("night bounds");
    private static final int[] KNOWN = {127, 126, 63, 119, 127, 95};
    /** Six people who always speak, each on his pillow; what is heard tells the draw well. */
    private static final String TALKERS = "q6;p127 10;p126 10;p63 10;p119 10;p127 10;p95 10;";

    public static void main(String[] args) {
        inNightsByDraws0To9999();
        inNightsFrom0To20();
        inNightsOfAllThereAre();
        inNightsAbove9999();
        inNightsWithWhatWasHeard();
        inNightsOfSeveralAtOnce();
        inNightsOfNobody();
        notesOfAllThereAre();
        notesFiveAtMost();
        notesBadAheadOfFull();
        notesTheSameAgain();
        notesChangesNothingElse();
        forgetFrom0To5();
        whichWhat();
        whichAllAndNone();
        whichFrom0To499();
        oddsOfAllThereAre();
        oddsFrom0To5Nights();
        oddsOfWhatHeDoesNotSay();
        oddsFrom0To1();
        oddsInLeastTerms();
        oddsAtMost();
        askingChangesNothing();
        DUE.end();
    }

    private static Story busy() {
        return Story.busy(DUE);
    }

    private static Story told(String text) {
        return Story.told(DUE, text);
    }

    private static int said(int p, int z, int night) {
        return Said.bit(KNOWN[p], 10, p, z, night);
    }

    private static void inNightsByDraws0To9999() {
        busy().takes("inNights(v, 1, 0)", (x, v) -> x.inNights(v, 1, 0), 0, 1, 9999, 1);
        busy().takes("inNights(v, 0, 0)", (x, v) -> x.inNights(v, 0, 0), 0, 1, 9999, 1);
        told(TALKERS).takes("inNights(v, 1, 5)", (x, v) -> x.inNights(v, 1, 5), 0, said(5, 0, 0), 9999, said(5, 9999, 0));
    }

    private static void inNightsFrom0To20() {
        busy().takes("inNights(0, v, 2)", (x, v) -> x.inNights(0, v, 2), 0, 4, 20, 4);
        told("q1;p1 10;").takes("inNights(9999, v, 0)", (x, v) -> x.inNights(9999, v, 0), 0, 0, 20, 1);
        // The twentieth night is heard, a twenty-first is not.
        int twenty = 0;
        for (int z = 0; z < 500; z++) {
            int first = z;
            int want = saidIn(first, 20);
            twenty += saidIn(first, 19) != want && saidIn(first, 21) != want ? 1 : 0;
            told("q1;p127 2;").answers("inNights(" + z + ", 20, 0)", x -> x.inNights(first, 20, 0), want);
        }
        DUE.is("some draws tell 20 from 19 and 21", twenty > 0 ? 1 : 0, 1);
    }

    private static int saidIn(int z, int nights) {
        int all = 0;
        for (int i = 0; i < nights; i++) {
            all |= Said.bit(127, 2, 0, (z + i) % 10000, i);
        }
        return all;
    }

    private static void inNightsOfAllThereAre() {
        busy().takes("inNights(0, 1, v)", (x, v) -> x.inNights(0, 1, v), 0, 1, 5, 16);
        busy().takes("inNights(0, 0, v)", (x, v) -> x.inNights(0, 0, v), 0, 1, 5, 16);
        told("q1;p2 10;").takes("inNights(0, 1, v) of one", (x, v) -> x.inNights(0, 1, v), 0, 2, 0, 2);
        busy().changesNothing("inNights(-1, 21, 6)", x -> x.inNights(-1, 21, 6), -1);
        busy().changesNothing("inNights(10000, -1, -1)", x -> x.inNights(10000, -1, -1), -1);
    }

    /** z 9980 with 20 nights ends at 9999, 9981 goes on from 0. */
    private static void inNightsAbove9999() {
        for (int z = 9970; z <= 9999; z++) {
            for (int n = 1; n <= 20; n++) {
                int first = z;
                int nights = n;
                String call = "inNights(" + z + ", " + n + ", 0)";
                told("q1;p127 2;").answers(call, x -> x.inNights(first, nights, 0), saidIn(z, n));
            }
        }
        told(TALKERS).answers("9999, then 0", x -> x.inNights(9999, 2, 0), said(0, 9999, 0) | said(0, 0, 1));
        DUE.is("0 is told from 10000", said(0, 0, 1) == said(0, 10000, 1) ? 1 : 0, 0);
    }

    private static void inNightsWithWhatWasHeard() {
        Story heard = told("q2;p1 10;p64 10;").then(x -> x.night(0)).then(x -> x.lays(0, 1));
        heard.answers("no night", x -> x.inNights(0, 0, 0), 1);
        heard.answers("nobody lies there now", x -> x.inNights(0, 20, 0), 1);
        heard.answers("both lie there now", x -> x.inNights(0, 1, 1), 65);
        heard.then(x -> x.slips(0)).answers("a clean slip", x -> x.inNights(0, 20, 0), 0);
        heard.then(x -> x.lays(0, -1)).answers("on none", x -> x.inNights(0, 20, 1), 64);
    }

    /** What two say at once, or three, is heard as much as what one says. */
    private static void inNightsOfSeveralAtOnce() {
        for (int people = 1; people <= 6; people++) {
            int many = people;
            Story same = told("q1;" + "p8 10;".repeat(people)).then(x -> {
                for (int p = 0; p < many; p++) {
                    x.lays(p, 0);
                }
                x.notes(0, 3, 1);
            });
            same.answers("said by " + people + " in a night", x -> x.inNights(0, 1, 0), 8);
            same.answers("said by " + people + " in two", x -> x.inNights(0, 2, 0), 8);
            same.answers("which()", x -> x.which(0), 500);
        }
    }

    private static void inNightsOfNobody() {
        Story nobody = new Story(DUE, x -> { });
        nobody.takes("inNights(0, v, 2) of nobody", (x, v) -> x.inNights(0, v, 2), 0, 0, 20, 0);
        nobody.takes("inNights(0, 20, v) of nobody", (x, v) -> x.inNights(0, 20, v), 0, 0, 2, 0);
    }

    private static void notesOfAllThereAre() {
        busy().takes("notes(v, 0, 1)", (x, v) -> x.notes(v, 0, 1), 0, 3, 5, 3);
        busy().takes("notes(0, v, 1)", (x, v) -> x.notes(0, v, 1), 0, 3, 6, 3);
        busy().takes("notes(0, 0, v)", (x, v) -> x.notes(0, 0, v), 0, 3, 1, 3);
        told("q1;").takes("notes(v, 6, 0) of one", (x, v) -> x.notes(v, 6, 0), 0, 1, 0, 1);
        new Story(DUE, x -> { }).takes("notes(v, 6, 0) of three", (x, v) -> x.notes(v, 6, 0), 0, 1, 2, 1);
        busy().changesNothing("notes(6, 7, 2)", x -> x.notes(6, 7, 2), -1);
        busy().changesNothing("notes(-1, -1, -1)", x -> x.notes(-1, -1, -1), -1);
    }

    private static Story noted(int many) {
        return told(TALKERS).then(x -> {
            for (int i = 0; i < many; i++) {
                x.notes(i, i, 0);
            }
        });
    }

    private static void notesFiveAtMost() {
        for (int many = 0; many < 5; many++) {
            int there = many;
            noted(many).answers("noted behind " + many, x -> x.notes(5, 6, 1), there + 1);
            noted(many).then(x -> x.notes(5, 6, 1)).answers("count(2)", x -> x.count(2), there + 1);
        }
        noted(5).changesNothing("a sixth", x -> x.notes(5, 6, 1), -3);
        noted(5).changesNothing("a sixth that is there", x -> x.notes(0, 0, 0), -3);
        noted(5).then(x -> x.forget()).answers("behind forget()", x -> x.notes(5, 6, 1), 1);
        noted(5).then(x -> x.court()).answers("read anew", x -> x.notes(0, 6, 1), 1);
    }

    private static void notesBadAheadOfFull() {
        noted(5).takesNoOther("full notes(v, 0, 0)", (x, v) -> x.notes(v, 0, 0), 0, 5, -1);
        noted(5).takesNoOther("full notes(0, v, 0)", (x, v) -> x.notes(0, v, 0), 0, 6, -1);
        noted(5).takesNoOther("full notes(0, 0, v)", (x, v) -> x.notes(0, 0, v), 0, 1, -1);
    }

    private static void notesTheSameAgain() {
        Story twice = told(TALKERS).then(x -> x.notes(0, 0, 1)).then(x -> x.notes(0, 0, 1));
        twice.answers("it counts again", x -> x.count(2), 2);
        long once = told(TALKERS).then(x -> x.notes(0, 0, 1)).court().which(0);
        twice.answers("which() is as by one", x -> x.which(0), once);
    }

    private static void notesChangesNothingElse() {
        busy().then(x -> x.notes(3, 3, 1)).answers("undone as before", x -> x.now(5), 10);
        Story again = busy().then(x -> {
            x.notes(3, 3, 1);
            x.forget();
            x.notes(0, 0, 1);
            x.notes(5, 6, 0);
        });
        again.isAs("noted, forgotten, noted as before", busy());
    }

    private static void forgetFrom0To5() {
        told(TALKERS).changesNothing("nothing noted", x -> x.forget(), 0);
        for (int many = 1; many <= 5; many++) {
            int there = many;
            noted(many).answers("forget() of " + many, x -> x.forget(), there);
            noted(many).then(x -> x.forget()).answers("nothing then", x -> x.count(2), 0);
            noted(many).then(x -> x.forget()).isAs("as if nothing was", told(TALKERS));
        }
        noted(5).then(x -> x.notes(0, 0, 0)).answers("forget() of six, one refused", x -> x.forget(), 5);
    }

    private static void whichWhat() {
        busy().takes("which(v)", (x, v) -> x.which(v), 0, 500, 1, 0);
        new Story(DUE, x -> { }).takes("which(v) of nobody", (x, v) -> x.which(v), 0, 500, 1, 0);
    }

    private static void whichAllAndNone() {
        Story always = told("q2;p1 10;").then(x -> x.notes(0, 0, 1));
        always.takes("which(v), always so", (x, v) -> x.which(v), 0, 500, 1, 0);
        Story never = told("q2;p1 10;").then(x -> x.notes(1, 0, 1));
        never.takes("which(v), never so", (x, v) -> x.which(v), 0, 0, 1, -9);
        Story both = told("q2;p3 10;").then(x -> x.notes(0, 0, 1)).then(x -> x.notes(0, 0, 0));
        both.takes("which(v), so and not so", (x, v) -> x.which(v), 0, 0, 1, -9);
        Story full = told("q1;p1 10;").then(x -> {
            for (int z = 0; z < 100; z++) {
                x.night(z);
            }
            x.notes(0, 0, 1);
        });
        full.takes("which(v), it was heard 99 times", (x, v) -> x.which(v), 0, 500, 1, 0);
    }

    /** What the first five say at a draw is noted: which() finds it from 0 to 499 and not at 500. */
    private static void whichFrom0To499() {
        for (int night = 0; night < 3; night++) {
            for (int z : new int[] {0, 1, 250, 498, 499, 500}) {
                int many = 0;
                int least = -9;
                for (int drawn = 499; drawn >= 0; drawn--) {
                    if (alike(z, drawn, night)) {
                        many++;
                        least = drawn;
                    }
                }
                DUE.is(z + " tells itself from all others below 500", many, z < 500 ? 1 : 0);
                int want = many;
                int wantLeast = least;
                notedAt(z, night).answers("how many at " + z, x -> x.which(0), want);
                notedAt(z, night).answers("the least at " + z, x -> x.which(1), wantLeast);
            }
        }
    }

    private static boolean alike(int z, int drawn, int night) {
        for (int p = 0; p < 5; p++) {
            if (said(p, z, night) != said(p, drawn, night)) {
                return false;
            }
        }
        return true;
    }

    private static Story notedAt(int z, int nights) {
        return told(TALKERS).then(x -> {
            for (int i = 0; i < nights; i++) {
                x.night(i);
            }
            for (int p = 0; p < 5; p++) {
                x.notes(p, Integer.numberOfTrailingZeros(said(p, z, nights)), 1);
            }
        });
    }

    private static void oddsOfAllThereAre() {
        busy().takes("odds(v, 0, 1, 0)", (x, v) -> x.odds(v, 0, 1, 0), 0, 1, 5, 0);
        busy().takes("odds(0, v, 1, 0)", (x, v) -> x.odds(0, v, 1, 0), 0, 1, 6, 0);
        busy().takes("odds(0, 0, v, 0)", (x, v) -> x.odds(0, 0, v, 0), 0, 0, 5, 1);
        busy().takes("odds(0, 0, 0, v)", (x, v) -> x.odds(0, 0, 0, v), 0, 0, 1, 1);
        new Story(DUE, x -> { }).changesNothing("odds of nobody", x -> x.odds(0, 0, 0, 0), -1);
        busy().changesNothing("odds(6, 7, 6, 2)", x -> x.odds(6, 7, 6, 2), -1);
        busy().changesNothing("odds(-1, -1, -1, -1)", x -> x.odds(-1, -1, -1, -1), -1);
    }

    private static void odds(String text, int t, int n, long upper, long lower) {
        told(text).answers("upper of '" + text + "', " + n + " nights", x -> x.odds(0, t, n, 0), upper);
        told(text).answers("lower of '" + text + "', " + n + " nights", x -> x.odds(0, t, n, 1), lower);
    }

    private static void oddsFrom0To5Nights() {
        long upper = 0;
        long lower = 1;
        for (int n = 0; n <= 5; n++) {
            odds("p1 5;", 0, n, upper, lower);
            lower *= 2;
            upper = lower - 1;
        }
    }

    private static void oddsOfWhatHeDoesNotSay() {
        for (int n = 0; n <= 5; n++) {
            odds("p0 10;", 0, n, 0, 1);
            odds("p0 0;", 6, n, 0, 1);
            odds("p127 0;", 0, n, 0, 1);
            odds("p63 10;", 6, n, 0, 1);
            odds("p126 10;", 0, n, 0, 1);
        }
    }

    private static void oddsFrom0To1() {
        odds("p64 10;", 6, 0, 0, 1);
        odds("p64 10;", 6, 1, 1, 1);
        odds("p64 10;", 6, 5, 1, 1);
        odds("p64 9;", 6, 1, 9, 10);
        odds("p64 1;", 6, 1, 1, 10);
        odds("p65 10;", 6, 1, 1, 2);
    }

    private static void oddsInLeastTerms() {
        odds("p3 4;", 0, 1, 1, 5);
        odds("p3 4;", 1, 2, 9, 25);
        odds("p7 6;", 0, 1, 1, 5);
        odds("p31 10;", 4, 1, 1, 5);
        odds("p15 8;", 3, 3, 61, 125);
        odds("p127 7;", 0, 1, 1, 10);
    }

    /** 70 and 69 have nothing in common, so nothing falls out of 70 to the 5th. */
    private static void oddsAtMost() {
        odds("p127 1;", 0, 5, 116668651L, 1680700000L);
        odds("p127 9;", 6, 5, 1680700000L - 844596301L, 1680700000L);
        odds("p127 10;", 6, 5, 9031L, 16807L);
    }

    private static void askingChangesNothing() {
        busy().changesNothing("inNights(9990, 20, 3)", x -> x.inNights(9990, 20, 3), 24);
        busy().changesNothing("which(0)", x -> x.which(0), 500);
        busy().changesNothing("which(1)", x -> x.which(1), 0);
        busy().changesNothing("odds(0, 0, 5, 1)", x -> x.odds(0, 0, 5, 1), 1);
    }
}
