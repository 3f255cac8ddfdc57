/** Promises 1 to 9 and 30: a new object, the text, what is told, how things are. */
public final class CourtTest {
    private static final Due DUE = new Due("court");
    private static final String SIX_PEOPLE = "p1 1;p1 1;p1 1;p1 1;p1 1;p1 1;";

    public static void main(String[] args) {
        newObject();
        typing();
        clearing();
        goodTexts();
        faults();
        faultChangesNothing();
        readAnew();
        readAgainAndAgain();
        sixOfAll();
        people();
        safePillows();
        clashes();
        pillows();
        heardTimes();
        nows();
        counts();
        DUE.end();
    }

    private static void newObject() {
        PillowCourt x = new PillowCourt();
        for (int what = 0; what < 4; what++) {
            DUE.is("new count(" + what + ")", x.count(what), what == 1 ? 3 : 0);
        }
        for (int what = 0; what < 6; what++) {
            DUE.is("new now(" + what + ")", x.now(what), 0);
        }
        for (int q = 0; q < 3; q++) {
            for (int what = 0; what < 3; what++) {
                DUE.is("new pillow(" + q + ", " + what + ")", x.pillow(q, what), 0);
            }
        }
        DUE.is("new person(0, 0)", x.person(0, 0), -1);
        DUE.is("new pillow(3, 0)", x.pillow(3, 0), -1);
        DUE.is("new undo()", x.undo(), -2);
        DUE.is("new back(0)", x.back(0), -2);
        DUE.is("new trace()", x.trace(), 0);
        DUE.is("new whose(0, 0)", x.whose(0, 0), 1);
        DUE.is("new rate(2, 0): nobody lies there", x.rate(2, 0), 0);
    }

    private static void typing() {
        PillowCourt x = new PillowCourt();
        DUE.is("type(-1)", x.type(-1), -1);
        DUE.is("type(256)", x.type(256), -1);
        DUE.is("type(MIN)", x.type(Integer.MIN_VALUE), -1);
        DUE.is("type(0)", x.type(0), 1);
        DUE.is("type(255)", x.type(255), 2);
        for (int i = 3; i <= 200; i++) {
            DUE.is("type(32)", x.type(32), i);
        }
        DUE.is("letter 201", x.type(32), -3);
        DUE.is("letter 201, bad", x.type(256), -1);
        DUE.is("count(3)", x.count(3), 200);
    }

    private static void clearing() {
        PillowCourt x = new PillowCourt();
        DUE.is("clear() of nothing", x.clear(), 0);
        Due.type(x, "yyy");
        DUE.is("clear()", x.clear(), 3);
        DUE.is("clear() again", x.clear(), 0);
        Due.type(x, "q2;");
        DUE.is("court() behind clear()", x.court(), 1);
        Due.type(x, "q123");
        x.clear();
        Due.type(x, "q1");
        DUE.is("letters cleared are not read", x.court(), -12);
    }

    private static void goodTexts() {
        DUE.is("empty text", Due.read(""), 0);
        DUE.is("blanks", Due.read("   "), 0);
        DUE.is("q", Due.read("q1;"), 1);
        DUE.is("q 6", Due.read("q6;"), 1);
        DUE.is("no blanks where none are needed", Due.read("q3;p7 10;x0 3;"), 3);
        DUE.is("many blanks", Due.read("  q  3 ;  p 7  10  ; x 0 3 ; "), 3);
        DUE.is("edges of p", Due.read("p0 0;p127 10;"), 2);
        DUE.is("edges of x", Due.read("x0 6;x6 0;"), 2);
        DUE.is("six people", Due.read("q6;" + SIX_PEOPLE), 7);
        DUE.is("x between p", Due.read("p1 1;x0 1;p1 1;x0 1;"), 4);
        DUE.is("forty items", Due.read("x0 1;".repeat(40)), 40);
    }

    private static void fault(String text, int place) {
        DUE.is("court() of '" + text + "'", Due.read(text), -10 - place);
    }

    private static void faults() {
        fault("q0;", 1);
        fault("q7;", 1);
        fault("q 128;", 2);
        fault("q;", 1);
        fault("qq", 1);
        fault("q1 1;", 3);
        fault("q1;q1;", 3);
        fault("p1 1;q1;", 5);
        fault("x0 1; q1;", 6);
        fault("p128 1;", 1);
        fault("p1 11;", 3);
        fault("p1;", 2);
        fault("p;", 1);
        fault("p11;", 3);
        fault("p1 1 1;", 5);
        fault("p1 1p", 4);
        fault(SIX_PEOPLE + "p1 1;", 30);
        fault(SIX_PEOPLE + "x0 1; p1 1;", 36);
        fault("x7 1;", 1);
        fault("x1 7;", 3);
        fault("x1 1;", 3);
        fault("x 3  3;", 5);
        fault("x1;", 2);
        fault("x1 2 3;", 5);
        otherFaults();
    }

    private static void otherFaults() {
        fault(";", 0);
        fault("q1;;", 3);
        fault("5", 0);
        fault("y", 0);
        fault("q1;P1 1;", 3);
        fault("\t", 0);
        fault("q1\n;", 2);
        fault("q-1;", 1);
        fault("q" + (char) 177 + ";", 1);
        fault((char) 0 + "", 0);
        fault("q01;", 1);
        fault("p00 1;", 1);
        fault("p1 00;", 3);
        fault("p1 010;", 3);
        fault("p1270 1;", 1);
        fault("p1271 1;", 1);
        fault("p4294967297 1;", 1);
        fault("p" + "9".repeat(150) + " 1;", 1);
        fault("p1 " + "0".repeat(150) + ";", 3);
        fault("q", 1);
        fault("q1", 2);
        fault("q1  ", 4);
        fault("p1 ", 3);
        fault("x0 1", 4);
        fault("q1;p", 4);
        fault(" ".repeat(198) + "q1", 200);
        // The first token that can't stand there, not the first strange letter.
        fault("p1 1 1; y", 5);
        fault("p1 1;; y", 5);
        fault("p1 1; y ;", 6);
    }

    private static void faultChangesNothing() {
        PillowCourt x = Due.told("q2;p3 10;x0 1;");
        x.night(5);
        x.notes(0, 0, 1);
        x.keep(0);
        x.examines(0);
        int heard = x.pillow(0, 0);
        Due.type(x, "q5;p1 1;x2 3;p1 1");
        DUE.is("a fault", x.court(), -27);
        DUE.is("people as before", x.count(0), 1);
        DUE.is("pillows as before", x.count(1), 2);
        DUE.is("noted as before", x.count(2), 1);
        DUE.is("text as before", x.count(3), 17);
        DUE.is("knows as before", x.person(0, 0), 3);
        DUE.is("talks as before", x.person(0, 1), 10);
        DUE.is("clashes as before", x.clashes(2), 0);
        DUE.is("heard as before", x.pillow(0, 0), heard);
        DUE.is("examined as before", x.pillow(0, 2), 1);
        DUE.is("night as before", x.now(0), 1);
        DUE.is("undoable as before", x.now(5), 2);
        DUE.is("image as before", x.back(0), 1);
        x.type(';');
        DUE.is("the text goes on", x.court(), 4);
        DUE.is("people anew", x.count(0), 2);
    }

    private static void readAnew() {
        PillowCourt x = Due.told("q6;p1 10;p2 10;x0 1;");
        x.lays(0, 4);
        x.night(1);
        x.examines(4);
        x.notes(0, 0, 1);
        x.keep(0);
        x.keep(1);
        x.rate(0, 0);
        DUE.is("court() of nothing", x.court(), 0);
        DUE.is("nobody", x.count(0), 0);
        DUE.is("3 pillows", x.count(1), 3);
        DUE.is("nothing noted", x.count(2), 0);
        DUE.is("no clash", x.clashes(0), 0);
        for (int what = 0; what < 6; what++) {
            DUE.is("anew now(" + what + ")", x.now(what), 0);
        }
        DUE.is("images are gone, 0", x.back(0), -2);
        DUE.is("images are gone, 1", x.back(1), -2);
        DUE.is("nothing to undo", x.undo(), -2);
        DUE.is("the trace stays", x.trace(), 1);
        Due.type(x, "q5;p1 10;p1 10;");
        DUE.is("court() again", x.court(), 3);
        DUE.is("text is empty then", x.count(3), 0);
        DUE.is("lies at first", x.person(0, 2), 0);
        DUE.is("not examined", x.pillow(4, 2), 0);
        DUE.is("nothing heard", x.heard(4, 0), 0);
    }

    /** Nothing of any earlier text comes back, however many were read in between. */
    private static void readAgainAndAgain() {
        PillowCourt x = Due.told("q6;p1 10;p2 10;p4 10;x0 1;x3 6;");
        x.night(0);
        DUE.is("fit(-1) of three", x.fit(-1), 3);
        for (int i = 0; i < 4; i++) {
            Due.type(x, "p2 10;");
            DUE.is("court() again", x.court(), 1);
            DUE.is("people", x.count(0), 1);
            DUE.is("pillows", x.count(1), 3);
            DUE.is("clashes(0)", x.clashes(0), 0);
            DUE.is("clashes(6)", x.clashes(6), 0);
            DUE.is("alone", x.now(4), 2);
            DUE.is("whose", x.whose(0, 0), 2);
            x.night(0);
            DUE.is("fit(-1)", x.fit(-1), 1);
            DUE.is("fit(0)", x.fit(0), 0);
        }
    }

    private static void sixOfAll() {
        PillowCourt x = Due.told("q6;p65 10;p66 10;p68 10;p72 10;p80 10;p96 10;x6 0;x5 6;");
        DUE.is("alone", x.now(4), 63);
        for (int p = 0; p < 6; p++) {
            DUE.is("lies at first", x.person(p, 2), p);
            DUE.is("safe where he alone lies", x.person(p, 3), 1 << p);
            DUE.is("who lies there", x.pillow(p, 1), 1 << p);
            DUE.is("in nights", x.inNights(0, 20, p), 64 + (1 << p));
        }
        DUE.is("night(0)", x.night(0), 6);
        DUE.is("which(0)", x.which(0), 500);
        for (int z = 1; z < 20; z++) {
            x.night(z);
        }
        DUE.is("all heard", x.now(3), 127);
        DUE.is("against", x.now(2), 2);
        DUE.is("fit(-1)", x.fit(-1), 120);
        DUE.is("looks()", x.looks(), 63);
        DUE.is("whose(5, 0)", x.whose(5, 0), 32);
        DUE.is("whose(5, 1)", x.whose(5, 1), 32);
        x.lays(0, -1);
        x.lays(1, 5);
        DUE.is("safe for who lies on none", x.person(0, 3), 3);
    }

    private static void people() {
        PillowCourt x = Due.told("q2;p127 0;p64 10;p0 5;");
        DUE.is("person(0, 0)", x.person(0, 0), 127);
        DUE.is("person(0, 1)", x.person(0, 1), 0);
        DUE.is("person(1, 0)", x.person(1, 0), 64);
        DUE.is("person(1, 1)", x.person(1, 1), 10);
        DUE.is("person(1, 2)", x.person(1, 2), 1);
        DUE.is("person(2, 2): no pillow 2", x.person(2, 2), -9);
        DUE.is("person(3, 0)", x.person(3, 0), -1);
        DUE.is("person(-1, 0)", x.person(-1, 0), -1);
        DUE.is("person(0, 4)", x.person(0, 4), -1);
        DUE.is("person(0, -1)", x.person(0, -1), -1);
    }

    private static void safePillows() {
        PillowCourt x = Due.told("q4;p3 1;p2 1;p4 1;p0 1;");
        DUE.is("safe: not by 1", x.person(0, 3), 13);
        DUE.is("safe: not by 0", x.person(1, 3), 14);
        DUE.is("safe: all", x.person(2, 3), 15);
        DUE.is("safe: who knows nothing", x.person(3, 3), 15);
        x.lays(1, 0);
        DUE.is("safe: not where both lie", x.person(0, 3), 14);
        x.lays(1, -1);
        DUE.is("safe: on none he harms nobody", x.person(0, 3), 15);
        DUE.is("safe: 0 still lies there", x.person(1, 3), 14);
    }

    private static void clashes() {
        PillowCourt x = Due.told("x0 6;x6 0;x6 2;x1 2;");
        int[] wanted = {64, 4, 66, 0, 0, 0, 5};
        for (int t = 0; t < 7; t++) {
            DUE.is("clashes(" + t + ")", x.clashes(t), wanted[t]);
        }
        DUE.is("clashes(7)", x.clashes(7), -1);
        DUE.is("clashes(-1)", x.clashes(-1), -1);
    }

    private static void pillows() {
        PillowCourt x = Due.told("q2;p2 10;p64 10;p4 10;");
        x.lays(2, 1);
        x.night(9);
        DUE.is("pillow(0, 0)", x.pillow(0, 0), 2);
        DUE.is("pillow(1, 0)", x.pillow(1, 0), 68);
        DUE.is("pillow(0, 1)", x.pillow(0, 1), 1);
        DUE.is("pillow(1, 1)", x.pillow(1, 1), 6);
        DUE.is("pillow(1, 2)", x.pillow(1, 2), 0);
        x.examines(1);
        DUE.is("pillow(1, 2) examined", x.pillow(1, 2), 1);
        DUE.is("pillow(0, 2)", x.pillow(0, 2), 0);
        DUE.is("pillow(2, 0)", x.pillow(2, 0), -1);
        DUE.is("pillow(-1, 0)", x.pillow(-1, 0), -1);
        DUE.is("pillow(0, 3)", x.pillow(0, 3), -1);
        DUE.is("pillow(0, -1)", x.pillow(0, -1), -1);
    }

    private static void heardTimes() {
        PillowCourt x = Due.told("q2;p2 10;p2 10;");
        x.night(1);
        DUE.is("heard(0, 1)", x.heard(0, 1), 1);
        x.lays(1, 0);
        x.night(1);
        DUE.is("heard(0, 1), by two", x.heard(0, 1), 3);
        DUE.is("heard(1, 1)", x.heard(1, 1), 1);
        DUE.is("heard(0, 0)", x.heard(0, 0), 0);
        DUE.is("heard(2, 0)", x.heard(2, 0), -1);
        DUE.is("heard(-1, 0)", x.heard(-1, 0), -1);
        DUE.is("heard(0, 7)", x.heard(0, 7), -1);
        DUE.is("heard(0, -1)", x.heard(0, -1), -1);
    }

    private static void nows() {
        PillowCourt x = Due.told("q3;p1 10;p2 10;p6 0;p16 0;x0 1;x0 2;x1 4;");
        DUE.is("alone", x.now(4), 21);
        x.night(0);
        DUE.is("night", x.now(0), 1);
        DUE.is("known", x.now(1), 0);
        DUE.is("against", x.now(2), 1);
        DUE.is("all heard", x.now(3), 3);
        DUE.is("undoable", x.now(5), 1);
        x.examines(1);
        DUE.is("known then", x.now(1), 2);
        DUE.is("undoable then", x.now(5), 2);
        x.lays(0, 1);
        x.night(0);
        DUE.is("known grows by what an examined one hears", x.now(1), 3);
        x.slips(0);
        x.slips(1);
        DUE.is("against, nothing heard", x.now(2), 0);
        DUE.is("now(6)", x.now(6), -1);
        DUE.is("now(-1)", x.now(-1), -1);
    }

    private static void counts() {
        PillowCourt x = Due.told("q5;p1 10;p2 10;");
        Due.type(x, "abc");
        x.notes(0, 0, 0);
        DUE.is("count(0)", x.count(0), 2);
        DUE.is("count(1)", x.count(1), 5);
        DUE.is("count(2)", x.count(2), 1);
        DUE.is("count(3)", x.count(3), 3);
        DUE.is("count(4)", x.count(4), -1);
        DUE.is("count(-1)", x.count(-1), -1);
    }
}
