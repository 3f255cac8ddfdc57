/** Promises 22 to 26: inNights, notes, forget, which, odds. */
public final class NightsTest {
    private static final Due DUE = new Due("nights");

    public static void main(String[] args) {
        inNights();
        inNightsIsAsNights();
        inNightsWrong();
        notes();
        which();
        whichIsNow();
        odds();
        oddsEdges();
        oddsWrong();
        DUE.end();
    }

    private static void inNights() {
        PillowCourt x = Due.told("q2;p1 10;p2 10;");
        DUE.is("no night", x.inNights(0, 0, 0), 0);
        DUE.is("one night", x.inNights(0, 1, 0), 1);
        DUE.is("the other pillow", x.inNights(0, 1, 1), 2);
        x.night(0);
        x.lays(0, 1);
        DUE.is("what it has heard is in it", x.inNights(0, 0, 0), 1);
        DUE.is("by whoever lies there", x.inNights(0, 1, 1), 3);
        DUE.is("nothing is changed", x.pillow(1, 0), 2);
        DUE.is("the night, neither", x.now(0), 1);
    }

    private static void inNightsIsAsNights() {
        for (int z : new int[] {0, 77, 9985, 9999}) {
            PillowCourt x = Due.told("q2;p127 5;p85 7;p42 3;");
            x.lays(2, 0);
            x.night(3);
            for (int n = 0; n <= 20; n++) {
                PillowCourt y = Due.told("q2;p127 5;p85 7;p42 3;");
                y.lays(2, 0);
                y.night(3);
                for (int i = 0; i < n; i++) {
                    y.night((z + i) % 10000);
                }
                DUE.is("inNights(" + z + ", " + n + ", 0)", x.inNights(z, n, 0), y.pillow(0, 0));
                DUE.is("inNights(" + z + ", " + n + ", 1)", x.inNights(z, n, 1), y.pillow(1, 0));
            }
        }
    }

    private static void inNightsWrong() {
        PillowCourt x = Due.told("q2;p1 10;");
        DUE.is("inNights(-1, 0, 0)", x.inNights(-1, 0, 0), -1);
        DUE.is("inNights(10000, 0, 0)", x.inNights(10000, 0, 0), -1);
        DUE.is("inNights(0, -1, 0)", x.inNights(0, -1, 0), -1);
        DUE.is("inNights(0, 21, 0)", x.inNights(0, 21, 0), -1);
        DUE.is("inNights(0, 0, 2)", x.inNights(0, 0, 2), -1);
        DUE.is("inNights(0, 0, -1)", x.inNights(0, 0, -1), -1);
    }

    private static void notes() {
        PillowCourt x = Due.told("q2;p1 10;");
        DUE.is("forget() nothing", x.forget(), 0);
        for (int i = 1; i <= 5; i++) {
            DUE.is("notes(1, 6, 1)", x.notes(1, 6, 1), i);
        }
        DUE.is("a sixth", x.notes(0, 0, 0), -3);
        DUE.is("a sixth, bad", x.notes(2, 0, 0), -1);
        DUE.is("count(2)", x.count(2), 5);
        DUE.is("forget()", x.forget(), 5);
        DUE.is("forget() again", x.forget(), 0);
        DUE.is("notes(2, 0, 0)", x.notes(2, 0, 0), -1);
        DUE.is("notes(-1, 0, 0)", x.notes(-1, 0, 0), -1);
        DUE.is("notes(0, 7, 0)", x.notes(0, 7, 0), -1);
        DUE.is("notes(0, -1, 0)", x.notes(0, -1, 0), -1);
        DUE.is("notes(0, 0, 2)", x.notes(0, 0, 2), -1);
        DUE.is("notes(0, 0, -1)", x.notes(0, 0, -1), -1);
        DUE.is("nothing noted", x.count(2), 0);
    }

    private static void which() {
        PillowCourt x = Due.told("q2;p127 5;p85 7;p42 3;");
        x.lays(2, 0);
        DUE.is("nothing noted: all", x.which(0), 500);
        DUE.is("nothing noted: the least", x.which(1), 0);
        x.notes(0, 3, 1);
        x.notes(1, 0, 0);
        int many = 0;
        int least = -9;
        for (int z = 499; z >= 0; z--) {
            int ofPillow0 = Said.bit(127, 5, 0, z, 0) | Said.bit(42, 3, 2, z, 0);
            int ofPillow1 = Said.bit(85, 7, 1, z, 0);
            if ((ofPillow0 >> 3 & 1) == 1 && (ofPillow1 & 1) == 0) {
                many++;
                least = z;
            }
        }
        DUE.is("which(0)", x.which(0), many);
        DUE.is("which(1)", x.which(1), least);
        x.notes(0, 3, 0);
        DUE.is("heard and not heard", x.which(0), 0);
        DUE.is("heard and not heard: none", x.which(1), -9);
        DUE.is("which(2)", x.which(2), -1);
        DUE.is("which(-1)", x.which(-1), -1);
    }

    private static void whichIsNow() {
        PillowCourt x = Due.told("q2;p1 10;");
        x.notes(0, 0, 1);
        DUE.is("he always says it", x.which(0), 500);
        x.lays(0, 1);
        DUE.is("not on that pillow", x.which(0), 0);
        x.undo();
        x.night(3);
        DUE.is("what was noted stays behind a night", x.which(0), 500);
        x.forget();
        x.notes(1, 0, 0);
        DUE.is("nobody lies there", x.which(0), 500);
        x.forget();
        x.mixes(0, 1);
        x.notes(1, 0, 1);
        DUE.is("heard before does not count", x.which(0), 0);
    }

    private static void odds(PillowCourt x, int p, int t, int n, long upper, long lower) {
        DUE.is("odds(" + p + ", " + t + ", " + n + ", 0)", x.odds(p, t, n, 0), upper);
        DUE.is("odds(" + p + ", " + t + ", " + n + ", 1)", x.odds(p, t, n, 1), lower);
    }

    private static void odds() {
        PillowCourt x = Due.told("p1 5;p3 10;p127 1;p7 8;");
        odds(x, 0, 0, 1, 1, 2);
        odds(x, 0, 0, 5, 31, 32);
        odds(x, 1, 1, 2, 3, 4);
        odds(x, 2, 6, 1, 1, 70);
        odds(x, 2, 6, 5, 1680700000L - 1564031349L, 1680700000L);
        odds(x, 3, 0, 2, 104, 225);
    }

    private static void oddsEdges() {
        PillowCourt x = Due.told("p1 10;p64 0;p0 10;");
        odds(x, 0, 0, 0, 0, 1);
        odds(x, 0, 0, 1, 1, 1);
        odds(x, 0, 0, 5, 1, 1);
        odds(x, 0, 1, 5, 0, 1);
        odds(x, 1, 6, 5, 0, 1);
        odds(x, 2, 0, 5, 0, 1);
    }

    private static void oddsWrong() {
        PillowCourt x = Due.told("p1 10;");
        DUE.is("odds(1, 0, 0, 0)", x.odds(1, 0, 0, 0), -1);
        DUE.is("odds(-1, 0, 0, 0)", x.odds(-1, 0, 0, 0), -1);
        DUE.is("odds(0, 7, 0, 0)", x.odds(0, 7, 0, 0), -1);
        DUE.is("odds(0, -1, 0, 0)", x.odds(0, -1, 0, 0), -1);
        DUE.is("odds(0, 0, 6, 0)", x.odds(0, 0, 6, 0), -1);
        DUE.is("odds(0, 0, -1, 0)", x.odds(0, 0, -1, 0), -1);
        DUE.is("odds(0, 0, 0, 2)", x.odds(0, 0, 0, 2), -1);
        DUE.is("odds(0, 0, 0, -1)", x.odds(0, 0, 0, -1), -1);
    }
}
