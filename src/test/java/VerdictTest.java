/** Promises 16 to 21: whose, so, tally, fit, looks, next. */
public final class VerdictTest {
    private static final Due DUE = new Due("verdict");

    public static void main(String[] args) {
        whose();
        whoseNone();
        whoseFewest();
        so();
        soOfSeveral();
        tally();
        fit();
        fitOfSeveral();
        fitGivesWay();
        looks();
        looksOfSeveral();
        next();
        DUE.end();
    }

    private static void whose() {
        PillowCourt x = Due.told("q2;p1 10;p3 0;p2 0;");
        DUE.is("nothing heard: all sets", x.whose(0, 0), 8);
        DUE.is("nothing heard: the fewest", x.whose(0, 1), 0);
        x.night(0);
        DUE.is("who knows 0: 0 or 1 are in it", x.whose(0, 0), 6);
        DUE.is("the fewest", x.whose(0, 1), 1);
        DUE.is("the other pillow", x.whose(1, 0), 8);
        DUE.is("whose(2, 0)", x.whose(2, 0), -1);
        DUE.is("whose(-1, 0)", x.whose(-1, 0), -1);
        DUE.is("whose(0, 2)", x.whose(0, 2), -1);
        DUE.is("whose(0, -1)", x.whose(0, -1), -1);
    }

    /** What was heard stays told by those who know, so none is only there without people. */
    private static void whoseNone() {
        PillowCourt x = new PillowCourt();
        DUE.is("nobody: the empty set", x.whose(2, 0), 1);
        DUE.is("nobody: the empty set's bits", x.whose(2, 1), 0);
    }

    private static void whoseFewest() {
        PillowCourt x = Due.told("q1;p1 10;p2 10;p4 10;p5 0;p6 0;p1 0;");
        x.lays(1, 0);
        x.lays(2, 0);
        x.night(0);
        DUE.is("heard", x.pillow(0, 0), 7);
        DUE.is("two are enough, the least", x.whose(0, 1), 10);
        PillowCourt y = Due.told("q1;p1 10;p2 10;p3 0;");
        y.lays(1, 0);
        y.night(0);
        DUE.is("one is fewer than two of less bits", y.whose(0, 1), 4);
        DUE.is("how many", y.whose(0, 0), 5);
    }

    private static void so() {
        // 0 clashes with 1 and 2; 0 is heard 3 times, 1 and 2 twice each.
        PillowCourt x = Due.told("q3;p1 10;p2 10;p4 10;x0 1;x2 0;");
        x.night(0);
        x.night(0);
        x.lays(1, -1);
        x.lays(2, -1);
        x.night(0);
        DUE.is("so(0)", x.so(0), 6);
        DUE.is("so(1)", x.so(1), 4);
        x.night(0);
        x.night(0);
        DUE.is("so(0), 0 heard 5 times", x.so(0), 1);
        DUE.is("so(1), 0 heard 5 times", x.so(1), 5);
        DUE.is("so(2)", x.so(2), -1);
        DUE.is("so(-1)", x.so(-1), -1);
    }

    private static void soOfSeveral() {
        PillowCourt x = Due.told("q3;p2 10;p4 10;p64 10;x1 2;");
        DUE.is("nothing heard", x.so(0), 0);
        DUE.is("nothing heard, how much", x.so(1), 0);
        x.night(0);
        DUE.is("the least bits", x.so(0), 66);
        DUE.is("how much", x.so(1), 2);
        x.mixes(0, 2);
        DUE.is("by all pillows", x.so(1), 4);
        DUE.is("which then", x.so(0), 66);
    }

    private static void tally() {
        PillowCourt x = Due.told("q3;p1 10;p2 10;");
        x.night(0);
        DUE.is("tally(0, 1)", x.tally(0, 1), 2);
        DUE.is("tally(2, 1)", x.tally(2, 1), 1);
        x.mixes(0, 2);
        DUE.is("tally(0, 2)", x.tally(0, 2), 0);
        x.night(0);
        DUE.is("how often does not matter", x.tally(2, 0), 0);
        DUE.is("tally(1, 1)", x.tally(1, 1), -1);
        DUE.is("tally(0, 3)", x.tally(0, 3), -1);
        DUE.is("tally(-1, 0)", x.tally(-1, 0), -1);
    }

    private static void fit() {
        PillowCourt x = Due.told("q2;p1 10;p2 10;");
        x.lays(0, 1);
        x.lays(1, 0);
        x.night(0);
        x.night(0);
        DUE.is("fit(-1)", x.fit(-1), 4);
        DUE.is("fit(0)", x.fit(0), 1);
        DUE.is("fit(1)", x.fit(1), 0);
        DUE.is("fit(2)", x.fit(2), -1);
        DUE.is("fit(-2)", x.fit(-2), -1);
        DUE.is("fit(-1) of nobody", new PillowCourt().fit(-1), 0);
        DUE.is("fit(0) of nobody", new PillowCourt().fit(0), -1);
    }

    private static void fitOfSeveral() {
        PillowCourt x = Due.told("q3;p1 10;p1 10;p1 0;");
        DUE.is("nothing heard: none", x.fit(0), -9);
        x.night(0);
        DUE.is("how much", x.fit(-1), 2);
        DUE.is("none is first", x.fit(0), -9);
        DUE.is("the lower one to the next", x.fit(1), 0);
        DUE.is("then the other", x.fit(2), 1);
    }

    private static void fitGivesWay() {
        // Pillow 0 has heard 0 and 1 thrice each, pillow 1 has heard 0 twice.
        PillowCourt x = Due.told("q2;p3 0;p2 0;p1 10;p2 10;");
        x.lays(2, 0);
        x.lays(3, 0);
        x.night(0);
        x.night(0);
        x.night(0);
        x.lays(2, 1);
        x.lays(3, -1);
        x.night(0);
        x.night(0);
        DUE.is("how much", x.fit(-1), 8);
        DUE.is("all of pillow 0 is his", x.fit(0), 0);
        DUE.is("none", x.fit(1), -9);
        DUE.is("the one who knows 0", x.fit(2), 1);
        DUE.is("none, too", x.fit(3), -9);
    }

    private static void looks() {
        PillowCourt x = Due.told("q3;p1 10;p2 10;p3 0;");
        DUE.is("nothing heard", x.looks(), 0);
        x.night(0);
        DUE.is("two", x.looks(), 3);
        x.mixes(0, 2);
        x.mixes(1, 2);
        DUE.is("pillow 1 has all", x.looks(), 2);
        x.examines(0);
        DUE.is("with the one examined, still", x.looks(), 2);
        x.examines(2);
        DUE.is("all known", x.looks(), 0);
    }

    private static void looksOfSeveral() {
        PillowCourt x = Due.told("q6;p1 10;p2 10;p4 10;p2 10;p1 10;p4 10;");
        x.night(0);
        DUE.is("of as few the least", x.looks(), 7);
        x.slips(0);
        DUE.is("of as few the least then", x.looks(), 22);
        x.mixes(3, 5);
        DUE.is("fewer", x.looks(), 24);
    }

    private static void next() {
        PillowCourt x = Due.told("q3;p1 10;p2 10;p4 10;");
        DUE.is("nothing heard: the lowest", x.next(), 0);
        x.night(0);
        DUE.is("of several the lowest", x.next(), 0);
        x.lays(0, 2);
        x.night(0);
        DUE.is("most things", x.next(), 2);
        x.examines(2);
        DUE.is("0 has nothing new", x.next(), 1);
        x.examines(1);
        DUE.is("the last one", x.next(), 0);
        x.examines(0);
        DUE.is("all are examined", x.next(), -9);
        x.slips(1);
        DUE.is("a clean one", x.next(), 1);
    }
}
