/** The boundary cases of promises 27 to 29 and 31: kinds, images, the trace. */
public final class KindBoundsTest {
    private static final Due DUE = new Due("kind bounds");
    private static final long[] TRACES = {1, 11, 101, 1011, 10101, 100001};

    public static void main(String[] args) {
        rateOfKinds0To5();
        rateOfAllThereAre();
        rateOfACleanPillow();
        rateBelow0();
        rateAtMost();
        rateChangesTheTraceOnly();
        traceAtFirst();
        traceEachBodyOnce();
        traceBehindAllThatIsUndone();
        imagesAre0And1();
        backWhereNoneWasKept();
        imagesAreApart();
        imageKeptAgain();
        imageOfTheBeginning();
        keepChangesNothingElse();
        backBringsAllOfNow();
        backBringsNothingElse();
        DUE.end();
    }

    private static Story busy() {
        return Story.busy(DUE);
    }

    private static Story told(String text) {
        return Story.told(DUE, text);
    }

    private static void rateOfKinds0To5() {
        int[] wanted = {2, 8, 0, 16, 3, 6};
        for (int kind = 0; kind < 6; kind++) {
            int asked = kind;
            busy().answers("rate(" + kind + ", 3)", x -> x.rate(asked, 3), wanted[kind]);
        }
        busy().takesNoOther("rate(v, 3)", (x, v) -> x.rate(v, 3), 0, 5, -1000000);
    }

    private static void rateOfAllThereAre() {
        int[] ofFirst = {1, 5, 0, 10, 0, 5};
        int[] ofLast = {1, 3, 1, 6, 6, 5};
        for (int kind = 0; kind < 6; kind++) {
            int asked = kind;
            busy().answers("rate(" + kind + ", 0)", x -> x.rate(asked, 0), ofFirst[kind]);
            busy().answers("rate(" + kind + ", 5)", x -> x.rate(asked, 5), ofLast[kind]);
            busy().takesNoOther("rate(" + kind + ", v)", (x, v) -> x.rate(asked, v), 0, 5, -1000000);
            told("q1;").takesNoOther("rate(" + kind + ", v) of one", (x, v) -> x.rate(asked, v), 0, 0, -1000000);
        }
        busy().changesNothing("rate(6, 6)", x -> x.rate(6, 6), -1000000);
        busy().changesNothing("rate(-1, -1)", x -> x.rate(-1, -1), -1000000);
    }

    private static void rateOfACleanPillow() {
        int[] wanted = {0, 0, 0, 0, 2, 0};
        for (int kind = 0; kind < 6; kind++) {
            int asked = kind;
            new Story(DUE, x -> { }).answers("new rate(" + kind + ", 2)", x -> x.rate(asked, 2), wanted[kind]);
        }
    }

    private static void rateBelow0() {
        Story six = told("q6;" + "p1 0;".repeat(6)).then(x -> {
            for (int p = 0; p < 6; p++) {
                x.lays(p, 0);
            }
        });
        six.answers("six lie on a bolster", x -> x.rate(2, 0), -6);
        six.answers("six lie in a hotel", x -> x.rate(4, 0), -6);
        six.answers("nobody lies there", x -> x.rate(2, 5), 0);
        told("q1;p1 0;").answers("-1 is no refusal", x -> x.rate(2, 0), -1);
        told("q1;p1 0;").then(x -> x.rate(2, 0)).answers("it is traced", x -> x.trace(), 101);
    }

    /** All seven things, 99 times each. */
    private static void rateAtMost() {
        Story all = told("q2;p127 10;p127 10;").then(x -> {
            for (int z = 0; z < 60; z++) {
                x.night(z);
            }
            for (int i = 0; i < 8; i++) {
                x.mixes(0, 1);
            }
        });
        int[] wanted = {7, 700, 6, 1400, 7, 67};
        for (int kind = 0; kind < 6; kind++) {
            int asked = kind;
            all.answers("rate(" + kind + ", 1)", x -> x.rate(asked, 1), wanted[kind]);
        }
    }

    private static void rateChangesTheTraceOnly() {
        Story plain = told(Story.SIX).then(x -> x.night(0));
        for (int kind = 0; kind < 6; kind++) {
            int asked = kind;
            Story first = plain.then(x -> x.rate(asked, 0));
            plain.then(x -> x.rate(asked, 5)).isAs("whichever pillow", first);
            first.isNotAs("but for the trace", plain);
            first.then(x -> x.undo()).isAs("all else", told(Story.SIX).then(x -> x.rate(asked, 0)));
        }
    }

    private static void traceAtFirst() {
        new Story(DUE, x -> { }).answers("new trace()", x -> x.trace(), 0);
        told(Story.SIX).answers("told trace()", x -> x.trace(), 0);
        told(Story.SIX).then(x -> x.rate(6, 0)).then(x -> x.rate(0, 6)).answers("refused", x -> x.trace(), 0);
        busy().changesNothing("trace()", x -> x.trace(), 1011);
    }

    private static void traceEachBodyOnce() {
        for (int kind = 0; kind < 6; kind++) {
            int asked = kind;
            long once = TRACES[kind];
            Story rated = told("q1;").then(x -> x.rate(asked, 0));
            rated.answers("trace() of kind " + kind, x -> x.trace(), once);
            Story often = told("q1;").then(x -> {
                for (int i = 0; i < 400; i++) {
                    x.rate(asked, 0);
                }
            });
            often.answers("400 times", x -> x.trace(), 400 * once);
        }
    }

    private static void traceBehindAllThatIsUndone() {
        Story rated = busy().then(x -> x.rate(5, 0));
        rated.then(x -> x.undo()).answers("behind undo()", x -> x.trace(), 101012);
        rated.then(x -> x.back(0)).answers("behind back()", x -> x.trace(), 101012);
        rated.then(x -> x.clear()).answers("behind clear()", x -> x.trace(), 101012);
        rated.then(x -> x.court()).answers("behind a fault", x -> x.trace(), 101012);
        rated.then(x -> x.clear()).then(x -> x.court()).answers("behind court()", x -> x.trace(), 101012);
    }

    private static void imagesAre0And1() {
        busy().takes("keep(v)", (x, v) -> x.keep(v), 0, 4, 1, 4);
        busy().takes("back(v)", (x, v) -> x.back(v), 0, 2, 1, 3);
        Story empty = new Story(DUE, x -> { });
        empty.takes("new keep(v)", (x, v) -> x.keep(v), 0, 0, 1, 0);
        // Where none was kept a number that is wrong is BAD all the same.
        empty.takesNoOther("new back(v)", (x, v) -> x.back(v), 0, 1, -1);
    }

    private static void backWhereNoneWasKept() {
        Story begun = told(Story.SIX).then(x -> x.night(0)).then(x -> x.examines(0));
        begun.changesNothing("back(0)", x -> x.back(0), -2);
        begun.changesNothing("back(1)", x -> x.back(1), -2);
        begun.then(x -> x.keep(0)).changesNothing("back(1), 0 kept", x -> x.back(1), -2);
        begun.then(x -> x.keep(1)).changesNothing("back(0), 1 kept", x -> x.back(0), -2);
        begun.then(x -> x.keep(0)).answers("back(0), 0 kept", x -> x.back(0), 1);
        begun.then(x -> x.keep(2)).changesNothing("back(0), 2 not kept", x -> x.back(0), -2);
    }

    private static void imagesAreApart() {
        Story back = busy().then(x -> x.back(0));
        back.answers("1 is still there", x -> x.back(1), 3);
        back.answers("0 is still there", x -> x.back(0), 2);
        back.then(x -> x.back(1)).isAs("1 behind 0", busy().then(x -> x.back(1)));
        back.then(x -> x.back(0)).isAs("0 behind 0", back);
    }

    private static void imageKeptAgain() {
        Story again = busy().then(x -> x.keep(0));
        again.answers("the newer one", x -> x.back(0), 4);
        again.answers("the other one as it was", x -> x.back(1), 3);
        Story same = busy().then(x -> x.keep(0)).then(x -> x.keep(1));
        same.then(x -> x.back(0)).isAs("both alike", same.then(x -> x.back(1)));
    }

    private static void imageOfTheBeginning() {
        Story kept = told(Story.SIX).then(x -> x.keep(0));
        kept.then(x -> x.night(3)).then(x -> x.lays(0, -1)).then(x -> x.examines(0)).then(x -> x.back(0))
                .isAs("back to the beginning", kept);
    }

    private static void keepChangesNothingElse() {
        Story kept = busy().then(x -> x.keep(0));
        kept.answers("undone", x -> x.now(5), 10);
        kept.answers("undo()", x -> x.undo(), 9);
        kept.answers("the night", x -> x.now(0), 4);
        busy().then(x -> x.back(1)).then(x -> x.keep(1)).isAs("kept as it is", busy().then(x -> x.back(1)));
    }

    private static void backBringsAllOfNow() {
        PillowCourt x = busy().then(y -> y.back(0)).court();
        for (int k = 0; k < 6; k++) {
            DUE.is("where " + k + " lies", x.person(k, 2), k);
            DUE.is("what " + k + " has heard", x.pillow(k, 0), k < 5 ? 1 << k : 0);
            DUE.is("how often", x.heard(k, k), k < 5 ? 2 : 0);
            DUE.is("whether it is examined", x.pillow(k, 2), 0);
        }
        DUE.is("the night", x.now(0), 2);
        PillowCourt y = busy().then(z -> z.back(1)).court();
        int[] heard = {1, 2, 4, 24, 16, 16};
        int[] lie = {0, 1, 2, 3, 3, -9};
        for (int k = 0; k < 6; k++) {
            DUE.is("where " + k + " lies", y.person(k, 2), lie[k]);
            DUE.is("what " + k + " has heard", y.pillow(k, 0), heard[k]);
            DUE.is("whether it is examined", y.pillow(k, 2), k == 1 ? 1 : 0);
        }
        DUE.is("the night", y.now(0), 3);
    }

    private static void backBringsNothingElse() {
        Story back = busy().then(x -> x.back(0));
        back.answers("noted", x -> x.count(2), 2);
        back.answers("letters", x -> x.count(3), 5);
        back.answers("the text", x -> x.court(), -15);
        back.answers("the trace", x -> x.trace(), 1011);
        back.answers("clashes", x -> x.clashes(6), 33);
        back.answers("none may be undone", x -> x.now(5), 0);
    }
}
