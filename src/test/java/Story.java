import java.util.function.Consumer;
import java.util.function.Function;
import java.util.function.ToLongFunction;

/** Calls by which a court comes to be as a test wants it. They can be told again and again. */
final class Story {
    /** A call of which one number is looked at. */
    interface Call {
        long ask(PillowCourt x, int number);
    }

    /** Such as would be taken if a number were cut to 8 or 16 bits, or used as a shift. */
    private static final int[] FAR_OFF = {
        Integer.MIN_VALUE, Integer.MIN_VALUE + 1, Integer.MAX_VALUE, -65536, -256, -32, -9, -8, -2,
        8, 16, 31, 32, 33, 64, 256, 65536, 16777216};

    private final Due due;
    private final Consumer<PillowCourt> calls;

    Story(Due due, Consumer<PillowCourt> calls) {
        this.due = due;
        this.calls = calls;
    }

    /** A court of a text, with nothing done yet. */
    static Story told(Due due, String text) {
        return new Story(due, x -> {
            Due.type(x, text);
            x.court();
        });
    }

    Story then(Consumer<PillowCourt> more) {
        return new Story(due, calls.andThen(more));
    }

    PillowCourt court() {
        PillowCourt x = new PillowCourt();
        calls.accept(x);
        return x;
    }

    /** On a court of its own the call answers so. */
    void answers(String call, ToLongFunction<PillowCourt> ask, long want) {
        due.is(call, ask.applyAsLong(court()), want);
    }

    /** The call answers so, and all that can be learnt is as if it had not been. */
    void changesNothing(String call, ToLongFunction<PillowCourt> ask, long want) {
        answers(call, ask, want);
        then(ask::applyAsLong).isAs(call + " changes nothing", this);
    }

    /** All that can be learnt of this court is as of the other one. */
    void isAs(String what, Story other) {
        for (Function<PillowCourt, String> part : Deposition.PARTS) {
            due.is(what, part.apply(court()), part.apply(other.court()));
        }
    }

    /** The other way about: something can be learnt that is not as of the other one. */
    void isNotAs(String what, Story other) {
        int unlike = 0;
        for (Function<PillowCourt, String> part : Deposition.PARTS) {
            unlike += part.apply(court()).equals(part.apply(other.court())) ? 0 : 1;
        }
        due.is(what + ": something is unlike", unlike > 0 ? 1 : 0, 1);
    }

    /**
     * A number's bounds: the least and the most that are taken answer so; the ones next to them and
     * those far off are BAD, and nothing changes.
     */
    void takes(String call, Call ask, int least, long ofLeast, int most, long ofMost) {
        answers(call + " at " + least, x -> ask.ask(x, least), ofLeast);
        answers(call + " at " + most, x -> ask.ask(x, most), ofMost);
        takesNoOther(call, ask, least, most, PillowCourt.BAD);
    }

    void takesNoOther(String call, Call ask, int least, int most, long refusal) {
        refuses(call, ask, least - 1, refusal);
        refuses(call, ask, most + 1, refusal);
        for (int number : FAR_OFF) {
            if (number < least || number > most) {
                refuses(call, ask, number, refusal);
            }
        }
    }

    private void refuses(String call, Call ask, int number, long refusal) {
        changesNothing(call + " at " + number, x -> ask.ask(x, number), refusal);
    }

    /** Six people, each of one thing but the last, who knows two and is silent; six pillows. */
    static final String SIX = "q6;p1 10;p2 10;p4 10;p8 10;p16 10;p96 0;x0 6;x5 6;x1 2;";

    /**
     * A court in which everything has something in it: as many as may be undone and two more that
     * are lost, both images (nights 2 and 3), two noted, five letters, a trace.
     *
     * <p>It is night 4. Heard: pillow 0: thing 0 4 times; 1: 1 4 times; 2: 2 once; 3: 3 4 times and
     * 4 twice; 4 and 5: 4 twice. Pillows 1 and 3 are examined. Person 4 lies on 3, 5 on none.
     */
    static Story busy(Due due) {
        return told(due, SIX).then(x -> {
            x.rate(3, 0);
            x.night(0);
            x.night(9999);
            x.keep(0);
            x.lays(5, -1);
            x.lays(4, 3);
            x.night(7);
            x.examines(1);
            x.mixes(4, 5);
            x.keep(1);
            x.slips(2);
            x.examines(3);
            x.lays(0, 0);
            x.lays(3, 3);
            x.night(20);
            x.notes(0, 0, 1);
            x.notes(5, 6, 0);
            Due.type(x, "q2;p1");
        });
    }
}
