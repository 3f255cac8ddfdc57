import java.util.ArrayList;
import java.util.List;
import java.util.function.Consumer;

/** The boundary cases of promises 10 to 15: what is done, what is refused, what is undone. */
public final class DoneBoundsTest {
    private static final Due DUE = new Due("done bounds");

    public static void main(String[] args) {
        laysAllThereAre();
        laysOnNone();
        laysWhereHeLies();
        laysOthersMayToo();
        nightByDraws0To9999();
        nightOfAllDraws();
        nightTalksOrMore();
        nightKnowsNothing();
        nightOnNonePillowHears();
        nightOfNobody();
        night999AtMost();
        heardAtMost99ByNights();
        heardAtMost99ByTwoAtOnce();
        slipsAllThereAre();
        slipsFromNothingToAll();
        slipsIsNotExamined();
        mixesAllThereAre();
        mixesUnlike();
        mixesFromNothingToAll();
        mixesAtMost99();
        examinesAllThereAre();
        examinesWhatIs();
        examinesFromNothingToAll();
        undoBounds();
        DUE.end();
    }

    private static void undoBounds() {
        undoNone();
        undoTenAreKnown();
        undoEachAsItWas();
        undoWrapsAround();
        undoNotWhatWasRefused();
        undoNothingElse();
        undoBehindBack();
    }

    private static Story busy() {
        return Story.busy(DUE);
    }

    private static Story told(String text) {
        return Story.told(DUE, text);
    }

    private static void laysAllThereAre() {
        busy().takes("lays(v, 2)", (x, v) -> x.lays(v, 2), 0, 0, 5, -9);
        busy().takes("lays(0, v)", (x, v) -> x.lays(0, v), -1, 0, 5, 0);
        busy().takes("lays(4, v)", (x, v) -> x.lays(4, v), -1, 3, 5, 3);
        busy().takes("lays(v, -1)", (x, v) -> x.lays(v, -1), 0, 0, 5, -9);
        told("q1;p1 1;").takes("lays(v, 0) of one", (x, v) -> x.lays(v, 0), 0, 0, 0, 0);
        told("q1;p1 1;").takes("lays(0, v) of one", (x, v) -> x.lays(0, v), -1, 0, 0, 0);
        Story nobody = new Story(DUE, x -> { });
        nobody.changesNothing("lays(0, 0) of nobody", x -> x.lays(0, 0), -1);
        nobody.changesNothing("lays(0, -1) of nobody", x -> x.lays(0, -1), -1);
        busy().changesNothing("lays(6, 6)", x -> x.lays(6, 6), -1);
        busy().changesNothing("lays(-1, -2)", x -> x.lays(-1, -2), -1);
    }

    private static void laysOnNone() {
        Story none = told("q1;p1 10;").then(x -> x.lays(0, -1));
        none.answers("he lies on none", x -> x.person(0, 2), -9);
        none.answers("nobody lies there", x -> x.pillow(0, 1), 0);
        none.answers("where he lay: none", x -> x.lays(0, 0), -9);
        none.answers("none again", x -> x.lays(0, -1), -9);
    }

    /** It is not refused, so it may be undone. */
    private static void laysWhereHeLies() {
        Story same = told("q2;p1 10;").then(x -> x.lays(0, 0));
        same.answers("he lies there", x -> x.person(0, 2), 0);
        same.answers("one may be undone", x -> x.now(5), 1);
        same.answers("undo()", x -> x.undo(), 0);
    }

    private static void laysOthersMayToo() {
        PillowCourt x = told("q6;" + "p1 10;".repeat(6)).court();
        int lie = 32;
        for (int p = 0; p < 5; p++) {
            DUE.is("lays(" + p + ", 5)", x.lays(p, 5), p);
            lie += 1 << p;
            DUE.is("who lies on 5", x.pillow(5, 1), lie);
        }
        DUE.is("night(0)", x.night(0), 6);
        DUE.is("each of six is heard", x.heard(5, 0), 6);
    }

    private static void nightByDraws0To9999() {
        busy().takes("night(v)", (x, v) -> x.night(v), 0, 5, 9999, 5);
        busy().then(x -> x.night(0)).answers("the next night", x -> x.now(0), 5);
        busy().then(x -> x.night(-1)).answers("not behind -1", x -> x.now(0), 4);
        busy().then(x -> x.night(10000)).answers("not behind 10000", x -> x.now(0), 4);
    }

    /** All draws are as the document reckons them. */
    private static void nightOfAllDraws() {
        int[] known = {127, 3, 90, 64, 31, 112};
        int[] talks = {10, 1, 5, 9, 7, 3};
        StringBuilder text = new StringBuilder("q6;");
        for (int p = 0; p < 6; p++) {
            text.append("p").append(known[p]).append(" ").append(talks[p]).append(";");
        }
        Story six = told(text.toString());
        PillowCourt x = six.court();
        for (int z = 0; z < 10000; z++) {
            // An object is asked for twenty nights only, so that it has less than 512 calls.
            int night = z % 20;
            x = night == 0 ? six.court() : x;
            int many = 0;
            for (int p = 0; p < 6; p++) {
                int said = Said.bit(known[p], talks[p], p, z, night);
                many += Integer.bitCount(said);
                int before = x.pillow(p, 0);
                DUE.is("heard by " + p + " then, at " + z, x.inNights(z, 1, p), before | said);
            }
            DUE.is("night(" + z + ")", x.night(z), many);
        }
    }

    /** Whether he speaks: D modulo 10 against TALKS, on both sides of each TALKS. */
    private static void nightTalksOrMore() {
        for (int talks = 0; talks <= 10; talks++) {
            Story one = told("q1;p1 " + talks + ";");
            for (int z = 0; z < 40; z++) {
                int drawn = z;
                int want = Said.draw(0, z, 0) % 10 < talks ? 1 : 0;
                one.answers("talks " + talks + ", night(" + z + ")", x -> x.night(drawn), want);
            }
        }
        // By hand: z 0, person 1, night 0: D 5185, modulo 10 is 5.
        told("p0 0;p1 5;").answers("5 is as much as TALKS", x -> x.night(0), 0);
        told("p0 0;p1 6;").answers("5 is less than TALKS", x -> x.night(0), 1);
    }

    private static void nightKnowsNothing() {
        for (int z = 0; z < 40; z++) {
            int drawn = z;
            told("q1;p0 10;").answers("night(" + z + ")", x -> x.night(drawn), 0);
            told("q1;p1 0;").answers("night(" + z + ") of TALKS 0", x -> x.night(drawn), 0);
            told("q1;p1 10;").answers("night(" + z + ") of TALKS 10", x -> x.night(drawn), 1);
        }
    }

    private static void nightOnNonePillowHears() {
        Story none = told("q1;p1 10;p1 10;").then(x -> x.lays(0, -1));
        none.answers("both speak", x -> x.night(0), 2);
        none.then(x -> x.night(0)).answers("nothing is heard", x -> x.now(3), 0);
        none.then(x -> x.night(0)).answers("it is the next night", x -> x.now(0), 1);
    }

    private static void nightOfNobody() {
        Story nobody = new Story(DUE, x -> { });
        nobody.answers("nobody speaks", x -> x.night(0), 0);
        nobody.then(x -> x.night(0)).answers("it is the next night", x -> x.now(0), 1);
        nobody.then(x -> x.night(0)).answers("it may be undone", x -> x.now(5), 1);
    }

    /** So many nights need more than 512 calls; the class keeps to the bound all the same. */
    private static void night999AtMost() {
        Consumer<PillowCourt> sleep = x -> {
            for (int i = 0; i < 998; i++) {
                x.night(i);
            }
        };
        Story last = told("q2;p127 10;p42 10;").then(sleep);
        last.answers("night 998", x -> x.now(0), 998);
        last.answers("a night is taken", x -> x.night(9999), 2);
        Story over = last.then(x -> x.night(9999));
        over.answers("night 999", x -> x.now(0), 999);
        over.changesNothing("no night behind it", x -> x.night(0), -2);
        over.changesNothing("no night by 9999", x -> x.night(9999), -2);
        over.changesNothing("BAD ahead of STATE", x -> x.night(-1), -1);
        over.changesNothing("BAD ahead of STATE above", x -> x.night(10000), -1);
        over.then(x -> x.undo()).answers("one undone, it may be", x -> x.night(0), 2);
        over.then(x -> x.slips(0)).answers("999 does not matter in inNights", x -> x.inNights(9995, 3, 0),
                Said.bit(127, 10, 0, 9995, 999) | Said.bit(127, 10, 0, 9996, 1000) | Said.bit(127, 10, 0, 9997, 1001));
    }

    private static Story nights(Story story, int many) {
        return story.then(x -> {
            for (int i = 0; i < many; i++) {
                x.night(i);
            }
        });
    }

    private static void heardAtMost99ByNights() {
        Story one = told("q1;p4 10;");
        nights(one, 98).answers("98 nights", x -> x.heard(0, 2), 98);
        nights(one, 99).answers("99 nights", x -> x.heard(0, 2), 99);
        nights(one, 100).answers("100 nights", x -> x.heard(0, 2), 99);
        nights(one, 99).answers("he speaks all the same", x -> x.night(0), 1);
        nights(one, 100).answers("it is the next night", x -> x.now(0), 100);
        nights(one, 100).then(x -> x.undo()).answers("undone: 99", x -> x.heard(0, 2), 99);
        nights(one, 100).then(x -> x.undo()).then(x -> x.undo()).answers("undone: 98", x -> x.heard(0, 2), 98);
        nights(one, 100).answers("how much is so", x -> x.so(1), 99);
        nights(one, 100).answers("how much fits", x -> x.fit(-1), 99);
        nights(one, 100).answers("a DOWN pillow", x -> x.rate(1, 0), 100);
    }

    private static void heardAtMost99ByTwoAtOnce() {
        Story two = told("q1;p4 10;p4 10;").then(x -> x.lays(1, 0));
        nights(two, 49).answers("98 times", x -> x.heard(0, 2), 98);
        nights(two, 50).answers("not 100 times", x -> x.heard(0, 2), 99);
        nights(two, 49).answers("both speak", x -> x.night(0), 2);
    }

    private static void slipsAllThereAre() {
        busy().takes("slips(v)", (x, v) -> x.slips(v), 0, 1, 5, 1);
        told("q1;").takes("slips(v) of one", (x, v) -> x.slips(v), 0, 0, 0, 0);
        new Story(DUE, x -> { }).takes("slips(v) of three", (x, v) -> x.slips(v), 0, 0, 2, 0);
    }

    /** So many nights that a person who knows all has said all. */
    private static Story allHeard(String text) {
        Story story = told(text).then(x -> {
            for (int z = 0; z < 60; z++) {
                x.night(z);
            }
        });
        story.answers("all is heard", x -> x.pillow(0, 0), 127);
        return story;
    }

    private static void slipsFromNothingToAll() {
        told("q1;p127 10;").answers("nothing heard", x -> x.slips(0), 0);
        allHeard("q1;p127 10;").answers("all heard", x -> x.slips(0), 7);
        Story slipped = allHeard("q2;p127 10;p127 10;").then(x -> x.slips(0));
        slipped.answers("again", x -> x.slips(0), 0);
        slipped.answers("the other one is as it was", x -> x.pillow(1, 0), 127);
        for (int t = 0; t < 7; t++) {
            int thing = t;
            slipped.answers("heard(0, " + t + ")", x -> x.heard(0, thing), 0);
        }
    }

    private static void slipsIsNotExamined() {
        Story clean = told("q6;").then(x -> x.examines(5)).then(x -> x.examines(0)).then(x -> x.slips(5));
        clean.answers("not examined", x -> x.pillow(5, 2), 0);
        clean.answers("the other one still is", x -> x.pillow(0, 2), 1);
        clean.answers("it may be again", x -> x.examines(5), 0);
    }

    private static void mixesAllThereAre() {
        busy().takes("mixes(v, 3)", (x, v) -> x.mixes(v, 3), 0, 3, 5, 2);
        busy().takes("mixes(3, v)", (x, v) -> x.mixes(3, v), 0, 3, 5, 2);
        told("q2;").takes("mixes(v, 1) of two", (x, v) -> x.mixes(v, 1), 0, 0, 0, 0);
        told("q2;").takes("mixes(0, v) of two", (x, v) -> x.mixes(0, v), 1, 0, 1, 0);
        told("q1;").changesNothing("mixes(0, 1) of one", x -> x.mixes(0, 1), -1);
    }

    private static void mixesUnlike() {
        for (int q = 0; q < 6; q++) {
            int one = q;
            busy().changesNothing("mixes of " + q + " and itself", x -> x.mixes(one, one), -1);
        }
        told("q1;").changesNothing("mixes(0, 0) of one", x -> x.mixes(0, 0), -1);
        busy().changesNothing("mixes(6, 6)", x -> x.mixes(6, 6), -1);
    }

    private static void mixesFromNothingToAll() {
        told("q2;p127 10;").answers("nothing heard", x -> x.mixes(0, 1), 0);
        allHeard("q2;p127 10;").answers("all heard by one", x -> x.mixes(0, 1), 7);
        allHeard("q2;p127 10;").answers("the other way", x -> x.mixes(1, 0), 7);
        Story two = told("q3;p1 10;p64 10;").then(x -> x.night(0)).then(x -> x.mixes(1, 0));
        two.answers("each, 0", x -> x.pillow(0, 0), 65);
        two.answers("each, 1", x -> x.pillow(1, 0), 65);
        two.answers("no other one", x -> x.pillow(2, 0), 0);
    }

    private static void mixesAtMost99() {
        for (int many = 48; many <= 51; many++) {
            Story twice = nights(told("q2;p4 10;"), many).then(x -> x.mixes(0, 1)).then(x -> x.mixes(0, 1));
            int want = Math.min(2 * many, 99);
            twice.answers("twice " + many + ", 0", x -> x.heard(0, 2), want);
            twice.answers("twice " + many + ", 1", x -> x.heard(1, 2), want);
        }
        Story odd = nights(told("q3;p4 10;p4 10;"), 49).then(x -> x.lays(1, -1));
        Story even = odd.then(x -> x.night(0)).then(x -> x.mixes(1, 0));
        even.answers("50 and 49, 0", x -> x.heard(0, 2), 99);
        even.answers("50 and 49, 1", x -> x.heard(1, 2), 99);
        even.then(x -> x.mixes(0, 1)).answers("99 and 99", x -> x.heard(0, 2), 99);
        even.then(x -> x.mixes(0, 1)).then(x -> x.mixes(0, 2)).answers("99 and none", x -> x.heard(2, 2), 99);
        even.then(x -> x.mixes(0, 1)).then(x -> x.undo()).then(x -> x.undo()).answers("undone", x -> x.heard(1, 2), 49);
    }

    private static void examinesAllThereAre() {
        busy().takes("examines(v)", (x, v) -> x.examines(v), 0, 1, 5, 0);
        told("q1;").takes("examines(v) of one", (x, v) -> x.examines(v), 0, 0, 0, 0);
    }

    private static void examinesWhatIs() {
        busy().changesNothing("examines(1) again", x -> x.examines(1), -2);
        busy().changesNothing("examines(3) again", x -> x.examines(3), -2);
        Story all = told("q6;").then(x -> {
            for (int q = 0; q < 6; q++) {
                DUE.is("examines(" + q + ")", x.examines(q), 0);
            }
        });
        for (int q = 0; q < 6; q++) {
            int one = q;
            all.changesNothing("examines(" + q + ") again", x -> x.examines(one), -2);
        }
        all.changesNothing("examines(6), all examined", x -> x.examines(6), -1);
        all.then(x -> x.undo()).answers("undone, it may be", x -> x.examines(5), 0);
        all.then(x -> x.undo()).changesNothing("another one not", x -> x.examines(4), -2);
    }

    private static void examinesFromNothingToAll() {
        told("q1;p127 10;").answers("nothing heard", x -> x.examines(0), 0);
        Story all = allHeard("q2;p127 10;p127 10;");
        all.answers("all", x -> x.examines(0), 7);
        all.then(x -> x.examines(0)).answers("no more", x -> x.examines(1), 0);
    }

    private static void undoNone() {
        new Story(DUE, x -> { }).changesNothing("a new object", x -> x.undo(), -2);
        told(Story.SIX).changesNothing("as told", x -> x.undo(), -2);
        Story one = told(Story.SIX).then(x -> x.night(0));
        one.answers("one", x -> x.undo(), 0);
        one.then(x -> x.undo()).changesNothing("none behind it", x -> x.undo(), -2);
        one.then(x -> x.undo()).isAs("undone", told(Story.SIX));
    }

    private static void undoTenAreKnown() {
        for (int done = 9; done <= 12; done++) {
            int many = done;
            Story story = nights(told(Story.SIX), done);
            story.answers("may be undone behind " + done, x -> x.now(5), Math.min(many, 10));
            Story all = story.then(x -> {
                for (int i = Math.min(many, 10) - 1; i >= 0; i--) {
                    DUE.is("undo()", x.undo(), i);
                }
            });
            all.changesNothing("no more", x -> x.undo(), -2);
            all.isAs("older ones are lost: they stay done", settled(nights(told(Story.SIX), Math.max(0, done - 10))));
        }
    }

    /** As it is, but that nothing of what was done may be undone any more. */
    private static Story settled(Story story) {
        return story.then(x -> {
            for (int i = 0; i < 10; i++) {
                x.lays(0, -1);
            }
            for (int i = 0; i < 10; i++) {
                x.undo();
            }
        });
    }

    private static List<Consumer<PillowCourt>> doings() {
        return List.of(x -> x.lays(0, 3), x -> x.night(77), x -> x.slips(3), x -> x.mixes(0, 3),
                x -> x.examines(0), x -> x.lays(1, -1), x -> x.slips(1), x -> x.night(9999));
    }

    /** Each of them, behind a court in which ten may be undone already: nine are left of those. */
    private static void undoEachAsItWas() {
        Story nineLeft = busy().then(x -> x.undo()).then(x -> x.night(20));
        nineLeft.isAs("done again as it was", busy());
        for (Consumer<PillowCourt> doing : doings()) {
            busy().then(doing).isNotAs("something is done", busy());
            Story undone = busy().then(doing).then(x -> x.undo());
            undone.answers("nine are left", x -> x.now(5), 9);
            settled(undone).isAs("undone", settled(busy()));
        }
    }

    /** However often it is done and undone, what comes back is what was. */
    private static void undoWrapsAround() {
        PillowCourt x = told(Story.SIX).court();
        List<String> were = new ArrayList<>();
        int[] steps = {7, -3, 9, -10, 4, 4, 4, -6, 10, -10};
        int z = 0;
        for (int step : steps) {
            for (int i = 0; i < step; i++) {
                were.add(heard(x));
                x.night(z++);
            }
            for (int i = 0; i < -step; i++) {
                x.undo();
                DUE.is("undone to " + were.size(), heard(x), were.remove(were.size() - 1));
            }
        }
    }

    private static String heard(PillowCourt x) {
        StringBuilder all = new StringBuilder();
        for (int q = 0; q < 3; q++) {
            all.append(x.heard(q, q)).append(' ');
        }
        return all.append(x.now(0)).toString();
    }

    private static void undoNotWhatWasRefused() {
        Story refused = busy().then(x -> {
            x.lays(6, 0);
            x.lays(0, 6);
            x.lays(0, -2);
            x.night(-1);
            x.night(10000);
            x.slips(6);
            x.mixes(2, 2);
            x.mixes(0, 6);
            x.examines(1);
            x.examines(-1);
            x.back(2);
        });
        refused.isAs("refused calls", busy());
    }

    /** What may not be undone neither counts nor comes back. */
    private static void undoNothingElse() {
        Story others = busy().then(x -> {
            x.forget();
            x.notes(1, 1, 1);
            x.clear();
            x.type('y');
            x.rate(0, 0);
            x.keep(0);
            x.which(0);
        });
        others.answers("ten still", x -> x.now(5), 10);
        Story undone = others.then(x -> x.undo());
        undone.answers("the night is undone", x -> x.now(0), 3);
        undone.answers("noted stays", x -> x.count(2), 1);
        undone.answers("the text stays", x -> x.count(3), 1);
        undone.answers("the trace stays", x -> x.trace(), 1012);
        undone.answers("the image stays", x -> x.back(0), 4);
    }

    private static void undoBehindBack() {
        for (int image = 0; image < 2; image++) {
            int kept = image;
            Story back = busy().then(x -> x.back(kept));
            back.answers("none may be", x -> x.now(5), 0);
            back.changesNothing("undo()", x -> x.undo(), -2);
            back.then(x -> x.night(0)).answers("what comes then may be", x -> x.undo(), 0);
            back.then(x -> x.night(0)).then(x -> x.undo()).isAs("and is undone", back);
        }
    }
}
