/** The boundary cases of promises 5 to 9 and 30: what a court answers of itself. */
public final class CourtBoundsTest {
    private static final Due DUE = new Due("court bounds");

    public static void main(String[] args) {
        personOfAllThereAre();
        personWhat();
        personLiesOnNone();
        safeNobodyElseLiesThere();
        safeHeHimselfIsNoOther();
        safeWhoKnowsNothing();
        clashesOfThings0To6();
        pillowOfAllThereAre();
        pillowWhat();
        heardOfAllThereAre();
        heardFrom0To99();
        nowWhat();
        nowAtFirst();
        nowKnownOfPillowsExamined();
        nowAgainst();
        nowAlone();
        nowUndoneFrom0To10();
        countWhat();
        countFromLeastToMost();
        askingChangesNothing();
        allNumbersWrong();
        DUE.end();
    }

    private static Story busy() {
        return Story.busy(DUE);
    }

    private static Story told(String text) {
        return Story.told(DUE, text);
    }

    private static void personOfAllThereAre() {
        busy().takes("person(v, 0)", (x, v) -> x.person(v, 0), 0, 1, 5, 96);
        busy().takes("person(v, 1)", (x, v) -> x.person(v, 1), 0, 10, 5, 0);
        busy().takes("person(v, 2)", (x, v) -> x.person(v, 2), 0, 0, 5, -9);
        busy().takes("person(v, 3)", (x, v) -> x.person(v, 3), 0, 63, 5, 63);
        told("q6;p9 3;").takes("person(v, 0) of one", (x, v) -> x.person(v, 0), 0, 9, 0, 9);
    }

    private static void personWhat() {
        busy().takes("person(0, v)", (x, v) -> x.person(0, v), 0, 1, 3, 63);
        busy().takes("person(5, v)", (x, v) -> x.person(5, v), 0, 96, 3, 63);
    }

    private static void personLiesOnNone() {
        Story one = told("q2;p1 1;p1 1;p1 1;");
        one.answers("on the last pillow", x -> x.person(1, 2), 1);
        one.answers("there is no pillow 2", x -> x.person(2, 2), -9);
        one.then(x -> x.lays(1, -1)).answers("laid on none", x -> x.person(1, 2), -9);
        one.then(x -> x.lays(2, 0)).answers("laid on pillow 0", x -> x.person(2, 2), 0);
    }

    private static void safeNobodyElseLiesThere() {
        Story three = told("q3;p3 1;p6 1;p4 1;");
        three.answers("1 knows a thing of his", x -> x.person(0, 3), 5);
        three.answers("0 and 2 do", x -> x.person(1, 3), 2);
        three.answers("2 only of 1", x -> x.person(2, 3), 5);
        three.then(x -> x.lays(1, -1)).answers("all, where 1 lies on none", x -> x.person(0, 3), 7);
        Story same = told("q6;" + "p1 1;".repeat(6));
        same.answers("only his own", x -> x.person(5, 3), 32);
        same.then(x -> x.lays(4, 5)).answers("none but 4", x -> x.person(5, 3), 16);
        same.then(x -> x.lays(5, 4)).answers("5 is free then", x -> x.person(5, 3), 32);
        Story one = told("q1;p64 1;p64 1;");
        one.answers("the one pillow, he alone on it", x -> x.person(0, 3), 1);
        one.answers("another one on it", x -> x.person(1, 3), 0);
    }

    private static void safeHeHimselfIsNoOther() {
        Story one = told("q1;p127 10;");
        one.answers("where he lies himself", x -> x.person(0, 3), 1);
        one.then(x -> x.lays(0, -1)).answers("as he lies on none", x -> x.person(0, 3), 1);
    }

    private static void safeWhoKnowsNothing() {
        Story two = told("q2;p0 1;p127 1;");
        two.answers("nobody knows anything of his", x -> x.person(0, 3), 3);
        two.answers("he knows nothing of theirs", x -> x.person(1, 3), 3);
    }

    private static void clashesOfThings0To6() {
        busy().takes("clashes(v)", (x, v) -> x.clashes(v), 0, 64, 6, 33);
        told("").takes("clashes(v) of none", (x, v) -> x.clashes(v), 0, 0, 6, 0);
        Story all = told("x0 1;x0 2;x0 3;x0 4;x0 5;x0 6;x6 1;x6 2;x6 3;x6 4;x6 5;");
        all.takes("clashes(v) with all others", (x, v) -> x.clashes(v), 0, 126, 6, 63);
    }

    private static void pillowOfAllThereAre() {
        busy().takes("pillow(v, 0)", (x, v) -> x.pillow(v, 0), 0, 1, 5, 16);
        busy().takes("pillow(v, 1)", (x, v) -> x.pillow(v, 1), 0, 1, 5, 0);
        busy().takes("pillow(v, 2)", (x, v) -> x.pillow(v, 2), 0, 0, 5, 0);
        told("q1;p1 10;").then(x -> x.night(0))
                .takes("pillow(v, 0) of one", (x, v) -> x.pillow(v, 0), 0, 1, 0, 1);
        Story all = told("q1;" + "p1 1;".repeat(6)).then(x -> {
            for (int p = 0; p < 6; p++) {
                x.lays(p, 0);
            }
        });
        all.answers("all six on it", x -> x.pillow(0, 1), 63);
    }

    private static void pillowWhat() {
        busy().takes("pillow(3, v)", (x, v) -> x.pillow(3, v), 0, 24, 2, 1);
        busy().answers("pillow(3, 1)", x -> x.pillow(3, 1), 24);
        busy().takes("pillow(0, v)", (x, v) -> x.pillow(0, v), 0, 1, 2, 0);
    }

    private static void heardOfAllThereAre() {
        busy().takes("heard(v, 4)", (x, v) -> x.heard(v, 4), 0, 0, 5, 2);
        busy().takes("heard(0, v)", (x, v) -> x.heard(0, v), 0, 4, 6, 0);
        busy().takes("heard(5, v)", (x, v) -> x.heard(5, v), 0, 0, 6, 0);
        Story last = told("q1;p64 10;").then(x -> x.night(0));
        last.takes("heard(0, v) of thing 6", (x, v) -> x.heard(0, v), 0, 0, 6, 1);
        last.takes("heard(v, 6) of one pillow", (x, v) -> x.heard(v, 6), 0, 1, 0, 1);
    }

    private static void heardFrom0To99() {
        PillowCourt x = told("q1;p64 10;").court();
        DUE.is("never", x.heard(0, 6), 0);
        for (int i = 1; i <= 101; i++) {
            x.night(i);
            DUE.is("heard behind " + i + " nights", x.heard(0, 6), Math.min(i, 99));
        }
    }

    private static void nowWhat() {
        busy().takes("now(v)", (x, v) -> x.now(v), 0, 4, 5, 10);
        int[] wanted = {4, 26, 1, 31, 127, 10};
        for (int what = 0; what < 6; what++) {
            int asked = what;
            busy().answers("now(" + what + ")", x -> x.now(asked), wanted[what]);
        }
    }

    private static void nowAtFirst() {
        for (int what = 0; what < 6; what++) {
            int asked = what;
            new Story(DUE, x -> { }).answers("new now(" + what + ")", x -> x.now(asked), 0);
            told(Story.SIX).answers("told now(" + what + ")", x -> x.now(asked), what == 4 ? 127 : 0);
        }
    }

    private static void nowKnownOfPillowsExamined() {
        Story clean = told("q2;p1 10;p64 10;").then(x -> x.examines(0));
        clean.answers("it has heard nothing", x -> x.now(1), 0);
        clean.then(x -> x.night(0)).answers("it hears then", x -> x.now(1), 1);
        clean.then(x -> x.night(0)).then(x -> x.examines(1)).answers("all", x -> x.now(1), 65);
        clean.then(x -> x.night(0)).then(x -> x.slips(0)).answers("a clean slip", x -> x.now(1), 0);
    }

    private static void nowAgainst() {
        String apart = "q2;p1 10;p64 10;x0 6;";
        told(apart).answers("nothing heard", x -> x.now(2), 0);
        told(apart).then(x -> x.night(0)).answers("by two pillows", x -> x.now(2), 1);
        told(apart).then(x -> x.lays(1, 0)).then(x -> x.night(0)).answers("by one", x -> x.now(2), 1);
        told(apart).then(x -> x.lays(1, -1)).then(x -> x.night(0)).answers("one of them only", x -> x.now(2), 0);
        told(apart).then(x -> x.night(0)).then(x -> x.night(0)).answers("often is once", x -> x.now(2), 1);
        StringBuilder all = new StringBuilder("q1;p1 10;p2 10;p4 10;p8 10;p16 10;p32 10;");
        for (int a = 0; a < 6; a++) {
            for (int b = 0; b < a; b++) {
                all.append("x").append(a).append(" ").append(b).append(";");
            }
        }
        Story heardAll = told(all.toString()).then(x -> {
            for (int p = 0; p < 6; p++) {
                x.lays(p, 0);
            }
            x.night(0);
        });
        heardAll.answers("each two of six", x -> x.now(2), 15);
    }

    private static void nowAlone() {
        told("").answers("nobody", x -> x.now(4), 0);
        told("p127 0;").answers("one knows all", x -> x.now(4), 127);
        told("p127 0;p127 0;").answers("both know all", x -> x.now(4), 0);
        told("p127 0;p0 0;").answers("the other one nothing", x -> x.now(4), 127);
        told("p127 0;p64 0;").answers("all but one", x -> x.now(4), 63);
        told("p3 0;p3 0;p7 0;").answers("three times is not once", x -> x.now(4), 4);
        told("p3 0;p3 0;p3 0;p7 0;").answers("four times is not once", x -> x.now(4), 4);
    }

    private static void nowUndoneFrom0To10() {
        PillowCourt x = told("q1;p1 1;").court();
        for (int i = 0; i < 13; i++) {
            DUE.is("undone behind " + i, x.now(5), Math.min(i, 10));
            x.lays(0, i % 2 - 1);
        }
        for (int i = 9; i >= 0; i--) {
            x.undo();
            DUE.is("undone", x.now(5), i);
        }
        x.undo();
        DUE.is("undone still", x.now(5), 0);
    }

    private static void countWhat() {
        busy().takes("count(v)", (x, v) -> x.count(v), 0, 6, 3, 5);
        busy().answers("count(1)", x -> x.count(1), 6);
        busy().answers("count(2)", x -> x.count(2), 2);
    }

    private static void countFromLeastToMost() {
        Story least = told("q1;");
        int[] fewest = {0, 1, 0, 0};
        Story most = told("q6;" + "p1 1;".repeat(6)).then(x -> {
            for (int i = 0; i < 6; i++) {
                x.notes(i, 0, 1);
            }
            Due.type(x, " ".repeat(201));
        });
        int[] largest = {6, 6, 5, 200};
        for (int what = 0; what < 4; what++) {
            int asked = what;
            least.answers("least count(" + what + ")", x -> x.count(asked), fewest[what]);
            most.answers("most count(" + what + ")", x -> x.count(asked), largest[what]);
        }
    }

    private static void askingChangesNothing() {
        for (int what = 0; what < 6; what++) {
            int asked = what;
            busy().then(x -> x.person(0, asked)).isAs("person", busy());
            busy().then(x -> x.pillow(3, asked)).isAs("pillow", busy());
            busy().then(x -> x.now(asked)).isAs("now", busy());
            busy().then(x -> x.count(asked)).isAs("count", busy());
            busy().then(x -> x.clashes(asked)).isAs("clashes", busy());
            busy().then(x -> x.heard(3, asked)).isAs("heard", busy());
        }
    }

    private static void allNumbersWrong() {
        busy().changesNothing("person(6, 4)", x -> x.person(6, 4), -1);
        busy().changesNothing("person(-1, -1)", x -> x.person(-1, -1), -1);
        busy().changesNothing("pillow(6, 3)", x -> x.pillow(6, 3), -1);
        busy().changesNothing("pillow(-1, -1)", x -> x.pillow(-1, -1), -1);
        busy().changesNothing("heard(6, 7)", x -> x.heard(6, 7), -1);
        busy().changesNothing("heard(-1, 7)", x -> x.heard(-1, 7), -1);
        busy().changesNothing("heard(6, -7)", x -> x.heard(6, -7), -1);
    }
}
