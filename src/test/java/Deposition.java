import java.util.List;
import java.util.function.Function;

/**
 * All that can be learnt of a court, now and by what may be called later. It is taken in parts,
 * each from an object of its own, so that no object is asked more than 512 times.
 */
final class Deposition {
    static final List<Function<PillowCourt, String>> PARTS = List.of(
            Deposition::told, Deposition::heard, Deposition::verdicts, Deposition::nights,
            Deposition::undone, x -> image(x, 0), x -> image(x, 1), Deposition::text,
            Deposition::noted);

    private final StringBuilder answers = new StringBuilder();

    private Deposition add(String call, long answer) {
        answers.append(' ').append(call).append(' ').append(answer);
        return this;
    }

    private static String told(PillowCourt x) {
        Deposition d = new Deposition();
        for (int what = 0; what < 6; what++) {
            d.add("now", x.now(what)).add("count", x.count(what));
            for (int p = 0; p < 6; p++) {
                d.add("person", x.person(p, what));
            }
        }
        for (int t = 0; t < 7; t++) {
            d.add("clashes", x.clashes(t));
        }
        return d.add("trace", x.trace()).answers.toString();
    }

    private static String heard(PillowCourt x) {
        Deposition d = new Deposition();
        for (int q = 0; q < 6; q++) {
            for (int t = 0; t < 7; t++) {
                d.add("heard", x.heard(q, t));
            }
        }
        return d.addPillows(x).answers.toString();
    }

    private Deposition addPillows(PillowCourt x) {
        for (int q = 0; q < 6; q++) {
            for (int what = 0; what < 3; what++) {
                add("pillow", x.pillow(q, what));
            }
        }
        return add("now", x.now(0));
    }

    private static String verdicts(PillowCourt x) {
        Deposition d = new Deposition();
        for (int a = 0; a < 6; a++) {
            d.add("whose", x.whose(a, 0)).add("whose", x.whose(a, 1)).add("fit", x.fit(a));
            for (int b = 0; b < a; b++) {
                d.add("tally", x.tally(a, b));
            }
        }
        d.add("fit", x.fit(-1)).add("so", x.so(0)).add("so", x.so(1));
        return d.add("looks", x.looks()).add("next", x.next()).answers.toString();
    }

    private static String nights(PillowCourt x) {
        Deposition d = new Deposition();
        for (int i = 0; i < 6; i++) {
            d.add("inNights", x.inNights(9990, 1, i)).add("inNights", x.inNights(9990, 20, i));
            for (int t = 0; t < 7; t++) {
                d.add("odds", x.odds(i, t, 2, 0)).add("odds", x.odds(i, t, 2, 1));
            }
        }
        return d.add("which", x.which(0)).add("which", x.which(1)).answers.toString();
    }

    /** All that may be undone, one by one, with what each leaves; an eleventh time, too. */
    private static String undone(PillowCourt x) {
        Deposition d = new Deposition();
        for (int i = 0; i < 11; i++) {
            d.add("undo", x.undo()).addPillows(x);
        }
        return d.answers.toString();
    }

    private static String image(PillowCourt x, int image) {
        Deposition d = new Deposition();
        d.add("back", x.back(image));
        return d.answers + heard(x);
    }

    private static String text(PillowCourt x) {
        Deposition d = new Deposition();
        d.add("count", x.count(3)).add("court", x.court()).add("count", x.count(3));
        return d.answers + told(x);
    }

    private static String noted(PillowCourt x) {
        Deposition d = new Deposition();
        d.add("forget", x.forget()).add("which", x.which(0));
        return d.answers.toString();
    }
}
