/** Promises 27 to 29 and 31: rate, keep, back, trace. */
public final class KindsTest {
    private static final Due DUE = new Due("kinds");

    public static void main(String[] args) {
        rates();
        ratesOfAllThings();
        traces();
        ratesWrong();
        images();
        imagesKeepAllOfNow();
        imagesKeepNothingElse();
        DUE.end();
    }

    /** Pillow 2 has heard two things, five times together; two lie on it; it is night 3. */
    private static PillowCourt court() {
        PillowCourt x = Due.told("q3;p1 0;p2 10;p4 10;");
        x.lays(1, 2);
        x.night(0);
        x.night(0);
        x.lays(1, -1);
        x.night(0);
        x.lays(1, 2);
        return x;
    }

    private static void rates() {
        PillowCourt x = court();
        int[] wanted = {2, 7, 0, 14, 2, 5};
        for (int kind = 0; kind < 6; kind++) {
            DUE.is("rate(" + kind + ", 2)", x.rate(kind, 2), wanted[kind]);
        }
        x.slips(2);
        DUE.is("a bolster may be below 0", x.rate(2, 2), -2);
        DUE.is("a hotel's number", x.rate(4, 2), 0);
        DUE.is("an empty one", x.rate(4, 1), 1);
    }

    private static void ratesOfAllThings() {
        PillowCourt x = Due.told("q1;p1 10;p64 10;");
        x.lays(1, 0);
        x.night(0);
        x.night(0);
        int[] wanted = {2, 6, 0, 12, 0, 4};
        for (int kind = 0; kind < 6; kind++) {
            DUE.is("rate(" + kind + ", 0)", x.rate(kind, 0), wanted[kind]);
        }
    }

    private static void traces() {
        PillowCourt x = court();
        long[] wanted = {1, 11, 101, 1011, 10101, 100001};
        long sum = 0;
        for (int kind = 0; kind < 6; kind++) {
            x.rate(kind, 0);
            sum += wanted[kind];
            DUE.is("trace() behind rate(" + kind + ", 0)", x.trace(), sum);
        }
        x.keep(0);
        x.rate(0, 0);
        x.back(0);
        x.night(0);
        x.undo();
        DUE.is("trace() is not of now", x.trace(), sum + 1);
    }

    private static void ratesWrong() {
        PillowCourt x = court();
        DUE.is("rate(6, 0)", x.rate(6, 0), -1000000);
        DUE.is("rate(-1, 0)", x.rate(-1, 0), -1000000);
        DUE.is("rate(0, 3)", x.rate(0, 3), -1000000);
        DUE.is("rate(0, -1)", x.rate(0, -1), -1000000);
        DUE.is("nothing traced", x.trace(), 0);
    }

    private static void images() {
        PillowCourt x = court();
        DUE.is("keep(2)", x.keep(2), -1);
        DUE.is("keep(-1)", x.keep(-1), -1);
        DUE.is("back(2)", x.back(2), -1);
        DUE.is("back(-1)", x.back(-1), -1);
        DUE.is("back(1), none kept", x.back(1), -2);
        DUE.is("keep(1)", x.keep(1), 3);
        DUE.is("back(0), none kept", x.back(0), -2);
        x.night(0);
        DUE.is("keep(0)", x.keep(0), 4);
        x.night(0);
        DUE.is("back(1)", x.back(1), 3);
        DUE.is("back(0)", x.back(0), 4);
        DUE.is("now(0)", x.now(0), 4);
        DUE.is("keep(1) anew", x.keep(1), 4);
        DUE.is("back(1) anew", x.back(1), 4);
    }

    private static void imagesKeepAllOfNow() {
        PillowCourt x = court();
        x.examines(0);
        x.keep(0);
        x.lays(0, -1);
        x.lays(1, 0);
        x.night(0);
        x.slips(0);
        x.slips(2);
        x.examines(1);
        DUE.is("back(0)", x.back(0), 3);
        DUE.is("where 0 lies", x.person(0, 2), 0);
        DUE.is("where 1 lies", x.person(1, 2), 2);
        DUE.is("heard(2, 1)", x.heard(2, 1), 2);
        DUE.is("heard(2, 2)", x.heard(2, 2), 3);
        DUE.is("heard(0, 1)", x.heard(0, 1), 0);
        DUE.is("0 is examined", x.pillow(0, 2), 1);
        DUE.is("1 is not", x.pillow(1, 2), 0);
        DUE.is("the night", x.now(0), 3);
        x.night(0);
        DUE.is("an image may be gone back to again", x.back(0), 3);
    }

    private static void imagesKeepNothingElse() {
        PillowCourt x = court();
        x.keep(0);
        DUE.is("keep() leaves what may be undone", x.now(5), 6);
        x.notes(0, 0, 1);
        Due.type(x, "ab");
        x.back(0);
        DUE.is("noted", x.count(2), 1);
        DUE.is("letters", x.count(3), 2);
        DUE.is("nothing may be undone", x.now(5), 0);
        DUE.is("undo()", x.undo(), -2);
        x.lays(0, 1);
        DUE.is("undo() of what comes then", x.undo(), 0);
        x.lays(0, 1);
        x.back(1);
        DUE.is("a refused back() changes nothing", x.now(5), 1);
    }
}
