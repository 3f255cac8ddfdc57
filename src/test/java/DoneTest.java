/** Promises 10 to 15: lays, night, slips, mixes, examines, undo. */
public final class DoneTest {
    private static final Due DUE = new Due("done");

    public static void main(String[] args) {
        lays();
        nights();
        draws();
        slips();
        mixes();
        atMost99();
        examines();
        undo();
        undoneIsAsBefore();
        refusedIsNotUndone();
        DUE.end();
    }

    private static void lays() {
        PillowCourt x = Due.told("q3;p1 10;p2 10;");
        DUE.is("lays(0, 1)", x.lays(0, 1), 0);
        DUE.is("both lie there", x.pillow(1, 1), 3);
        DUE.is("lays(0, -1)", x.lays(0, -1), 1);
        DUE.is("on none", x.person(0, 2), -9);
        DUE.is("lays(0, 2)", x.lays(0, 2), -9);
        DUE.is("lays(0, 2) again", x.lays(0, 2), 2);
        DUE.is("lays(2, 0)", x.lays(2, 0), -1);
        DUE.is("lays(-1, 0)", x.lays(-1, 0), -1);
        DUE.is("lays(0, 3)", x.lays(0, 3), -1);
        DUE.is("lays(0, -2)", x.lays(0, -2), -1);
        DUE.is("lays(0, -9)", x.lays(0, -9), -1);
        DUE.is("he lies as before", x.person(0, 2), 2);
        DUE.is("four may be undone", x.now(5), 4);
    }

    private static void nights() {
        PillowCourt x = Due.told("q2;p8 10;p8 10;p8 0;p0 10;");
        x.lays(1, -1);
        x.lays(2, 1);
        DUE.is("night(0): he on none speaks, too", x.night(0), 2);
        DUE.is("heard(0, 3)", x.heard(0, 3), 1);
        DUE.is("heard(1, 3)", x.heard(1, 3), 0);
        DUE.is("night(9999)", x.night(9999), 2);
        DUE.is("heard(0, 3) twice", x.heard(0, 3), 2);
        DUE.is("the next night", x.now(0), 2);
        DUE.is("night(-1)", x.night(-1), -1);
        DUE.is("night(10000)", x.night(10000), -1);
        DUE.is("night as before", x.now(0), 2);
    }

    /** By hand: z 0, person 1, night 0: x 6152, squared modulo 65521 is 41487, D 5185. */
    private static void draws() {
        DUE.is("talks 5: silent", Due.told("p0 0;p127 5;").night(0), 0);
        DUE.is("talks 6: not", Due.told("p0 0;p127 6;").night(0), 1);
        DUE.is("518 modulo 7", afterNight("p0 0;p127 6;", 0, 1), 1);
        DUE.is("518 modulo 4", afterNight("p0 0;p90 6;", 0, 1), 16);
        DUE.is("518 modulo 3", afterNight("p0 0;p88 6;", 0, 1), 64);
        // z 0, person 0, night 0: D 0. z 1: x 7920, D 2850.
        DUE.is("D 0, talks 0", Due.told("p127 0;").night(0), 0);
        DUE.is("D 0, talks 1", afterNight("p126 1;", 0, 0), 2);
        DUE.is("285 modulo 7", afterNight("p127 1;", 1, 0), 32);
        // Night 1, z 0: x 4254, D 1590.
        PillowCourt x = Due.told("p127 1;");
        x.night(0);
        x.slips(0);
        DUE.is("in night 1", x.night(0), 1);
        DUE.is("159 modulo 7", x.pillow(0, 0), 32);
        // z 9999: x 79182082, squared modulo 65521 is 51303, D 6412.
        DUE.is("talks 2 at z 9999", Due.told("p127 2;").night(9999), 0);
        DUE.is("641 modulo 7", afterNight("p127 3;", 9999, 0), 16);
    }

    private static int afterNight(String text, int z, int q) {
        PillowCourt x = Due.told(text);
        x.night(z);
        return x.pillow(q, 0);
    }

    private static void slips() {
        PillowCourt x = Due.told("q2;p1 10;p2 10;");
        x.lays(1, 0);
        x.night(1);
        x.night(1);
        x.examines(0);
        DUE.is("slips(0)", x.slips(0), 2);
        DUE.is("heard nothing", x.pillow(0, 0), 0);
        DUE.is("not examined", x.pillow(0, 2), 0);
        DUE.is("who lies there still does", x.pillow(0, 1), 3);
        DUE.is("slips(0) again", x.slips(0), 0);
        DUE.is("slips(2)", x.slips(2), -1);
        DUE.is("slips(-1)", x.slips(-1), -1);
        DUE.is("undoable", x.now(5), 6);
    }

    private static void mixes() {
        PillowCourt x = Due.told("q3;p1 10;p2 10;p4 10;");
        x.night(1);
        x.lays(0, 1);
        x.night(1);
        x.examines(0);
        DUE.is("mixes(0, 1)", x.mixes(0, 1), 2);
        int[][] wanted = {{2, 2, 0}, {2, 2, 0}, {0, 0, 2}};
        for (int q = 0; q < 3; q++) {
            for (int t = 0; t < 3; t++) {
                DUE.is("heard(" + q + ", " + t + ")", x.heard(q, t), wanted[q][t]);
            }
        }
        DUE.is("examined as before", x.pillow(0, 2), 1);
        DUE.is("not examined as before", x.pillow(1, 2), 0);
        DUE.is("mixes(2, 1)", x.mixes(2, 1), 3);
        DUE.is("mixes(0, 0)", x.mixes(0, 0), -1);
        DUE.is("mixes(0, 3)", x.mixes(0, 3), -1);
        DUE.is("mixes(3, 0)", x.mixes(3, 0), -1);
        DUE.is("mixes(-1, 0)", x.mixes(-1, 0), -1);
        DUE.is("mixes(0, -1)", x.mixes(0, -1), -1);
        DUE.is("heard as before", x.heard(2, 2), 2);
    }

    private static void atMost99() {
        PillowCourt x = Due.told("q2;p1 10;");
        x.night(1);
        int[] wanted = {1, 2, 4, 8, 16, 32, 64, 99, 99};
        for (int want : wanted) {
            x.mixes(1, 0);
            DUE.is("mixed", x.heard(0, 0), want);
            DUE.is("mixed, the other one", x.heard(1, 0), want);
        }
        DUE.is("a night more", x.night(3), 1);
        DUE.is("99 at most", x.heard(0, 0), 99);
    }

    private static void examines() {
        PillowCourt x = Due.told("q3;p1 10;p3 10;p0 10;");
        for (int z = 0; z < 20; z++) {
            x.night(z);
        }
        DUE.is("examines(0)", x.examines(0), 1);
        DUE.is("examines(1): one more", x.examines(1), 1);
        DUE.is("examines(2)", x.examines(2), 0);
        DUE.is("examines(1) again", x.examines(1), -2);
        DUE.is("examines(3)", x.examines(3), -1);
        DUE.is("examines(-1)", x.examines(-1), -1);
        x.slips(1);
        DUE.is("examines(1) behind a slip", x.examines(1), 0);
    }

    private static void undo() {
        PillowCourt x = Due.told("q2;p1 10;");
        DUE.is("none", x.undo(), -2);
        for (int i = 0; i < 13; i++) {
            x.night(i);
            DUE.is("undoable", x.now(5), Math.min(i + 1, 10));
        }
        for (int i = 9; i >= 0; i--) {
            DUE.is("undo()", x.undo(), i);
            DUE.is("night then", x.now(0), i + 3);
        }
        DUE.is("older ones are lost", x.undo(), -2);
        DUE.is("heard then", x.heard(0, 0), 3);
        x.night(0);
        DUE.is("undo() of a new one", x.undo(), 0);
        DUE.is("heard as before", x.heard(0, 0), 3);
    }

    private static void undoneIsAsBefore() {
        PillowCourt x = Due.told("q2;p1 10;p2 10;");
        x.night(4);
        x.lays(0, 1);
        x.examines(0);
        x.mixes(0, 1);
        x.slips(0);
        DUE.is("undo slips", x.undo(), 4);
        DUE.is("heard again", x.pillow(0, 0), 3);
        DUE.is("examined again", x.pillow(0, 2), 1);
        DUE.is("undo mixes", x.undo(), 3);
        DUE.is("heard apart, 0", x.pillow(0, 0), 1);
        DUE.is("heard apart, 1", x.pillow(1, 0), 2);
        DUE.is("undo examines", x.undo(), 2);
        DUE.is("not examined", x.pillow(0, 2), 0);
        DUE.is("undo lays", x.undo(), 1);
        DUE.is("lies there again", x.person(0, 2), 0);
        DUE.is("undo night", x.undo(), 0);
        DUE.is("night 0", x.now(0), 0);
        DUE.is("nothing heard", x.now(3), 0);
    }

    private static void refusedIsNotUndone() {
        PillowCourt x = Due.told("q2;p1 10;");
        x.examines(1);
        x.examines(1);
        x.lays(5, 0);
        x.lays(0, 7);
        x.night(-1);
        x.slips(9);
        x.mixes(1, 1);
        x.notes(0, 0, 1);
        x.keep(0);
        x.rate(0, 0);
        DUE.is("one may be undone", x.now(5), 1);
        DUE.is("undo()", x.undo(), 0);
        DUE.is("what was noted stays", x.count(2), 1);
        DUE.is("not examined", x.pillow(1, 2), 0);
    }
}
