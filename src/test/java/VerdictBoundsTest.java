/** The boundary cases of promises 16 to 21: verdicts on nothing, on all, and where several are as good. */
public final class VerdictBoundsTest {
    private static final Due DUE = new Due("verdict bounds");
    private static final String ONE_EACH = "q6;p1 10;p2 10;p4 10;p8 10;p16 10;p32 10;";

    public static void main(String[] args) {
        whoseOfAllThereAre();
        whoseNothingHeard();
        whoseAllAreNeeded();
        whoseOfAsFewTheLeast();
        soWhat();
        soNothingHeard();
        soOfSeveralTheLeast();
        soWhereAllClash();
        soAtMost();
        tallyOfAllThereAre();
        tallyUnlike();
        tallyFromNoneToAll();
        fitOfAllThereAre();
        fitOfNobodyAndOfNothing();
        fitOneOnEach();
        fitOfSeveralTheFirst();
        fitAtMost();
        looksFromNoneToAll();
        looksOfAsFewTheLeast();
        nextOfNothing();
        nextOfSeveralTheLowest();
        nextAllExamined();
        askingChangesNothing();
        DUE.end();
    }

    private static Story busy() {
        return Story.busy(DUE);
    }

    private static Story told(String text) {
        return Story.told(DUE, text);
    }

    private static Story heard(String text) {
        return told(text).then(x -> x.night(0));
    }

    private static void whoseOfAllThereAre() {
        busy().takes("whose(v, 0)", (x, v) -> x.whose(v, 0), 0, 32, 5, 32);
        busy().takes("whose(v, 1)", (x, v) -> x.whose(v, 1), 0, 1, 5, 16);
        busy().takes("whose(3, v)", (x, v) -> x.whose(3, v), 0, 16, 1, 24);
        told("q1;").takes("whose(v, 0) of one", (x, v) -> x.whose(v, 0), 0, 1, 0, 1);
        new Story(DUE, x -> { }).takes("whose(v, 1) of three", (x, v) -> x.whose(v, 1), 0, 0, 2, 0);
    }

    /** The set of nobody knows all of nothing, so it is one of them, and the fewest. */
    private static void whoseNothingHeard() {
        for (int people = 0; people <= 6; people++) {
            Story some = told("q1;" + "p1 0;".repeat(people));
            some.answers("sets of " + people, x -> x.whose(0, 0), 1 << people);
            some.answers("the fewest", x -> x.whose(0, 1), 0);
        }
    }

    private static void whoseAllAreNeeded() {
        Story all = told(ONE_EACH).then(x -> {
            for (int p = 0; p < 6; p++) {
                x.lays(p, 5);
            }
            x.night(0);
        });
        all.answers("one set", x -> x.whose(5, 0), 1);
        all.answers("all of them", x -> x.whose(5, 1), 63);
        all.answers("the others have heard nothing", x -> x.whose(0, 0), 64);
    }

    private static void whoseOfAsFewTheLeast() {
        Story six = heard("q1;p64 10;p64 0;p64 0;p64 0;p64 0;p64 0;");
        six.answers("any but nobody", x -> x.whose(0, 0), 63);
        six.answers("the least", x -> x.whose(0, 1), 1);
        Story last = heard("q1;p1 10;p0 0;p1 0;");
        last.answers("0 ahead of 2", x -> x.whose(0, 1), 1);
        Story few = told("q1;p1 10;p2 10;p4 10;p7 0;").then(x -> {
            x.lays(1, 0);
            x.lays(2, 0);
            x.night(0);
        });
        few.answers("one of more bits ahead of three", x -> x.whose(0, 1), 8);
        few.answers("8 with him, 1 without", x -> x.whose(0, 0), 9);
    }

    private static void soWhat() {
        busy().takes("so(v)", (x, v) -> x.so(v), 0, 27, 1, 18);
    }

    private static void soNothingHeard() {
        for (String text : new String[] {"", ONE_EACH, "q1;p1 1;x0 1;"}) {
            told(text).answers("which", x -> x.so(0), 0);
            told(text).answers("how much", x -> x.so(1), 0);
        }
    }

    private static void soOfSeveralTheLeast() {
        // What was never heard adds nothing, so it is not in the least.
        heard("q1;p64 10;").answers("only what was heard", x -> x.so(0), 64);
        heard("q2;p1 10;p64 10;x0 6;").answers("0 or 6: 0", x -> x.so(0), 1);
        heard("q2;p1 10;p64 10;x0 6;").answers("how much", x -> x.so(1), 1);
        Story one = heard("q2;p1 10;p64 10;x0 6;").then(x -> x.lays(0, -1)).then(x -> x.night(0));
        one.answers("6 was heard more", x -> x.so(0), 64);
        one.answers("how much more", x -> x.so(1), 2);
        // 0 and 3 against 1 and 2: each two once.
        heard("q4;p1 10;p2 10;p4 10;p8 10;x0 1;x0 2;x3 1;x3 2;").answers("6 or 9: 6", x -> x.so(0), 6);
    }

    private static void soWhereAllClash() {
        StringBuilder text = new StringBuilder(ONE_EACH);
        for (int a = 0; a < 7; a++) {
            for (int b = 0; b < a; b++) {
                text.append("x").append(a).append(" ").append(b).append(";");
            }
        }
        Story all = heard(text.toString());
        all.answers("one at most", x -> x.so(1), 1);
        all.answers("the lowest", x -> x.so(0), 1);
        all.then(x -> x.mixes(5, 4)).answers("4 and 5 twice each: 4", x -> x.so(0), 16);
        all.then(x -> x.slips(0)).answers("0 is not heard any more", x -> x.so(0), 2);
        heard(ONE_EACH).answers("without a clash all", x -> x.so(0), 63);
        heard(ONE_EACH).answers("without a clash how much", x -> x.so(1), 6);
    }

    /** All pillows have heard all of six things 99 times, more is not to be had. */
    private static Story fullEars() {
        return told(ONE_EACH).then(x -> {
            x.night(0);
            for (int round = 0; round < 9; round++) {
                for (int q = 0; q < 6; q++) {
                    x.mixes(q, (q + 1) % 6);
                }
            }
        });
    }

    private static void soAtMost() {
        for (int q = 0; q < 6; q++) {
            for (int t = 0; t < 6; t++) {
                int one = q;
                int thing = t;
                fullEars().answers("99 times", x -> x.heard(one, thing), 99);
            }
        }
        fullEars().answers("how much", x -> x.so(1), 6 * 6 * 99);
        fullEars().answers("which", x -> x.so(0), 63);
    }

    private static void tallyOfAllThereAre() {
        busy().takes("tally(v, 3)", (x, v) -> x.tally(v, 3), 0, 3, 5, 1);
        busy().takes("tally(3, v)", (x, v) -> x.tally(3, v), 0, 3, 5, 1);
        told("q1;").changesNothing("tally(0, 1) of one", x -> x.tally(0, 1), -1);
        told("q2;").answers("tally(0, 1) of two", x -> x.tally(0, 1), 0);
    }

    private static void tallyUnlike() {
        for (int q = 0; q < 6; q++) {
            int one = q;
            busy().changesNothing("tally of " + q + " and itself", x -> x.tally(one, one), -1);
        }
        busy().changesNothing("tally(6, 6)", x -> x.tally(6, 6), -1);
    }

    private static void tallyFromNoneToAll() {
        busy().answers("both the same", x -> x.tally(4, 5), 0);
        Story all = told("q2;p127 10;").then(x -> {
            for (int z = 0; z < 60; z++) {
                x.night(z);
            }
        });
        all.answers("all seven", x -> x.tally(0, 1), 7);
        all.answers("all seven, the other way", x -> x.tally(1, 0), 7);
        all.then(x -> x.mixes(0, 1)).answers("none", x -> x.tally(0, 1), 0);
    }

    private static void fitOfAllThereAre() {
        busy().takes("fit(v)", (x, v) -> x.fit(v), -1, 15, 5, -9);
        int[] wanted = {0, 1, 2, 3, 4, -9};
        for (int p = 0; p < 6; p++) {
            int one = p;
            busy().answers("fit(" + p + ")", x -> x.fit(one), wanted[p]);
        }
        heard("q1;p1 10;").takes("fit(v) of one", (x, v) -> x.fit(v), -1, 1, 0, 0);
    }

    private static void fitOfNobodyAndOfNothing() {
        Story nobody = new Story(DUE, x -> { });
        nobody.takes("fit(v) of nobody", (x, v) -> x.fit(v), -1, 0, -1, 0);
        told(ONE_EACH).takes("fit(v) of nothing heard", (x, v) -> x.fit(v), -1, 0, 5, -9);
        told("q1;p0 10;").takes("fit(v) of who knows nothing", (x, v) -> x.fit(v), -1, 0, 0, -9);
    }

    private static void fitOneOnEach() {
        Story one = heard("q1;p1 10;p1 10;");
        one.answers("one pillow is one's", x -> x.fit(-1), 1);
        one.answers("the first has none", x -> x.fit(0), -9);
        one.answers("the second has it", x -> x.fit(1), 0);
        Story all = heard(ONE_EACH);
        for (int p = 0; p < 6; p++) {
            int asked = p;
            all.answers("each his own", x -> x.fit(asked), asked);
        }
        all.answers("how much", x -> x.fit(-1), 6);
        Story two = heard("q6;p1 10;").then(x -> x.lays(0, 5)).then(x -> x.night(0)).then(x -> x.night(0));
        two.answers("one of two pillows only", x -> x.fit(-1), 2);
        two.answers("the last one", x -> x.fit(0), 5);
    }

    private static void fitOfSeveralTheFirst() {
        Story same = heard("q2;p1 10;p1 10;p1 10;");
        same.answers("how much", x -> x.fit(-1), 2);
        same.answers("none ahead of all", x -> x.fit(0), -9);
        same.answers("the lower pillow", x -> x.fit(1), 0);
        same.answers("the other one", x -> x.fit(2), 1);
        Story more = heard("q3;p1 10;p1 10;p1 10;");
        for (int p = 0; p < 3; p++) {
            int asked = p;
            more.answers("pillows in order", x -> x.fit(asked), asked);
        }
        Story idle = heard("q2;p0 10;p2 10;");
        idle.answers("who explains nothing has none", x -> x.fit(0), -9);
        idle.answers("he has his", x -> x.fit(1), 1);
    }

    private static void fitAtMost() {
        fullEars().answers("99 for each of six", x -> x.fit(-1), 6 * 99);
        fullEars().answers("the first has the first", x -> x.fit(0), 0);
        fullEars().answers("the last has the last", x -> x.fit(5), 5);
    }

    private static void looksFromNoneToAll() {
        told(ONE_EACH).answers("nothing heard: none", x -> x.looks(), 0);
        new Story(DUE, x -> { }).answers("a new object", x -> x.looks(), 0);
        heard(ONE_EACH).answers("all six", x -> x.looks(), 63);
        Story five = heard(ONE_EACH).then(x -> {
            for (int q = 0; q < 5; q++) {
                x.examines(q);
            }
        });
        five.answers("the last", x -> x.looks(), 32);
        five.then(x -> x.examines(5)).answers("all are examined", x -> x.looks(), 0);
        five.then(x -> x.slips(5)).answers("all is known", x -> x.looks(), 0);
        busy().answers("looks()", x -> x.looks(), 5);
    }

    private static void looksOfAsFewTheLeast() {
        heard("q3;p1 10;p1 10;p1 10;").answers("any one: 0", x -> x.looks(), 1);
        Story four = heard("q4;p1 10;p1 10;p2 10;p2 10;");
        four.answers("0 and 2", x -> x.looks(), 5);
        four.then(x -> x.mixes(1, 3)).answers("one of both: 1", x -> x.looks(), 2);
        four.then(x -> x.examines(0)).answers("2 or 3: 2", x -> x.looks(), 4);
    }

    private static void nextOfNothing() {
        told(ONE_EACH).answers("nothing heard: the lowest", x -> x.next(), 0);
        told(ONE_EACH).then(x -> x.examines(0)).answers("the lowest not examined", x -> x.next(), 1);
        told("q1;").answers("the one", x -> x.next(), 0);
        Story known = heard("q2;p1 10;p1 10;").then(x -> x.examines(1));
        known.answers("nothing that is not known: still one", x -> x.next(), 0);
    }

    private static void nextOfSeveralTheLowest() {
        heard(ONE_EACH).answers("each one thing: 0", x -> x.next(), 0);
        heard(ONE_EACH).then(x -> x.mixes(5, 4)).answers("4 and 5 two things: 4", x -> x.next(), 4);
        heard(ONE_EACH).then(x -> x.lays(0, 5)).then(x -> x.night(0)).answers("5 most", x -> x.next(), 5);
        Story known = heard(ONE_EACH).then(x -> x.mixes(4, 5)).then(x -> x.examines(4));
        known.answers("5 has none more: 0", x -> x.next(), 0);
    }

    private static void nextAllExamined() {
        for (int many = 1; many <= 6; many++) {
            int pillows = many;
            Story all = told("q" + many + ";p1 10;").then(x -> {
                for (int q = 0; q < pillows; q++) {
                    x.examines(q);
                }
            });
            all.answers("all " + many, x -> x.next(), -9);
            all.then(x -> x.night(0)).answers("whatever they hear", x -> x.next(), -9);
            all.then(x -> x.undo()).answers("all but the last", x -> x.next(), pillows - 1);
            all.then(x -> x.slips(pillows - 1)).answers("a clean slip", x -> x.next(), pillows - 1);
        }
    }

    private static void askingChangesNothing() {
        busy().changesNothing("whose(3, 0)", x -> x.whose(3, 0), 16);
        busy().changesNothing("whose(3, 1)", x -> x.whose(3, 1), 24);
        busy().changesNothing("so(0)", x -> x.so(0), 27);
        busy().changesNothing("so(1)", x -> x.so(1), 18);
        busy().changesNothing("tally(0, 3)", x -> x.tally(0, 3), 3);
        busy().changesNothing("fit(-1)", x -> x.fit(-1), 15);
        busy().changesNothing("fit(4)", x -> x.fit(4), 4);
        busy().changesNothing("looks()", x -> x.looks(), 5);
        busy().changesNothing("next()", x -> x.next(), 0);
        busy().changesNothing("whose(6, 2)", x -> x.whose(6, 2), -1);
        busy().changesNothing("tally(-1, 6)", x -> x.tally(-1, 6), -1);
    }
}
