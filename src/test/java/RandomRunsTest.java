import java.util.Random;

/** Runs of 512 random calls, the class and the plain model asked alike. The seeds are fixed. */
public final class RandomRunsTest {
    private static final String[] CALLS = {
        "type", "clear", "court", "person", "clashes", "pillow", "heard", "now", "lays", "night",
        "slips", "mixes", "examines", "undo", "whose", "so", "tally", "fit", "looks", "next",
        "inNights", "notes", "forget", "which", "odds", "rate", "keep", "back", "count", "trace"};
    /** How often each is asked: what is done more often, so that there is something to see. */
    private static final int[] WEIGHTS = {
        1, 1, 1, 4, 1, 4, 6, 6, 8, 20,
        2, 3, 3, 3, 4, 4, 2, 6, 4, 4,
        4, 4, 1, 2, 3, 4, 2, 2, 2, 1};
    private static final int[] ODD_NUMBERS = {
        Integer.MIN_VALUE, Integer.MAX_VALUE, -9, -2, -1, 7, 8, 10, 21, 64, 127, 128, 256, 9999, 10000, -1000000};

    private final Due due;
    private final Random random;
    private final PillowCourt x = new PillowCourt();
    private final PlainCourt y = new PlainCourt();
    private int left = 512;

    private RandomRunsTest(Due due, long seed) {
        this.due = due;
        this.random = new Random(seed);
    }

    public static void main(String[] args) {
        Due due = new Due("random runs");
        for (long seed = 0; seed < 400; seed++) {
            new RandomRunsTest(due, seed).run(seed);
        }
        due.end();
    }

    private void run(long seed) {
        while (left > 0) {
            if (random.nextInt(60) == 0 || left == 512 && random.nextInt(10) > 0) {
                tell(seed);
            }
            String call = CALLS[drawCall()];
            ask(seed, call, numbersFor(call));
        }
    }

    private int drawCall() {
        int sum = 0;
        for (int w : WEIGHTS) {
            sum += w;
        }
        int at = random.nextInt(sum);
        int i = 0;
        while (at >= WEIGHTS[i]) {
            at -= WEIGHTS[i];
            i++;
        }
        return i;
    }

    private void ask(long seed, String call, int[] a) {
        if (left == 0) {
            return;
        }
        left--;
        due.is("seed " + seed + ", " + left + " calls left: " + call + java.util.Arrays.toString(a), answer(call, a), y.ask(call, a));
    }

    private void tell(long seed) {
        String text = spoiled(someText());
        ask(seed, "clear", new int[4]);
        for (int i = 0; i < text.length() && left > 1; i++) {
            ask(seed, "type", new int[] {text.charAt(i), 0, 0, 0});
        }
        ask(seed, "court", new int[4]);
    }

    private String someText() {
        StringBuilder s = new StringBuilder();
        if (random.nextBoolean()) {
            s.append("q").append(blanks(0)).append(1 + random.nextInt(6)).append(";");
        }
        int people = random.nextInt(7);
        for (int i = 0; i < people; i++) {
            int known = random.nextInt(3) == 0 ? 1 << random.nextInt(7) : random.nextInt(128);
            int talks = random.nextInt(3) == 0 ? 10 : random.nextInt(11);
            s.append("p").append(blanks(0)).append(known).append(blanks(1)).append(talks).append(";").append(blanks(0));
        }
        for (int i = random.nextInt(6); i > 0; i--) {
            int a = random.nextInt(7);
            int b = (a + 1 + random.nextInt(6)) % 7;
            s.append("x").append(a).append(blanks(1)).append(b).append(blanks(0)).append(";");
        }
        return s.toString();
    }

    private String blanks(int least) {
        return " ".repeat(least + (random.nextInt(5) == 0 ? random.nextInt(3) : 0));
    }

    /** Now and then a letter is changed, put in or left out, or the end is cut off. */
    private String spoiled(String text) {
        if (text.isEmpty() || random.nextInt(3) > 0) {
            return text;
        }
        int at = random.nextInt(text.length());
        String letters = "qpx;0123456789  y\t" + (char) 0 + (char) 255;
        char other = letters.charAt(random.nextInt(letters.length()));
        switch (random.nextInt(4)) {
            case 0: return text.substring(0, at) + other + text.substring(at + 1);
            case 1: return text.substring(0, at) + other + text.substring(at);
            case 2: return text.substring(0, at) + text.substring(at + 1);
            default: return text.substring(0, at);
        }
    }

    private int[] numbersFor(String call) {
        int[] a = new int[4];
        for (int i = 0; i < a.length; i++) {
            int spread = random.nextInt(3) == 0 ? 7 : random.nextInt(2) == 0 ? 2 : 4;
            a[i] = random.nextInt(40) == 0 ? ODD_NUMBERS[random.nextInt(ODD_NUMBERS.length)] : random.nextInt(spread);
        }
        boolean isDrawn = call.equals("night") || call.equals("inNights");
        if (isDrawn && random.nextInt(20) > 0) {
            a[0] = random.nextInt(10000);
        }
        if (call.equals("inNights") && random.nextBoolean()) {
            a[1] = random.nextInt(21);
        }
        if (call.equals("fit") || call.equals("lays") && random.nextInt(3) == 0) {
            a[call.equals("fit") ? 0 : 1]--;
        }
        return a;
    }

    private long answer(String call, int[] a) {
        switch (call) {
            case "type": return x.type(a[0]);
            case "clear": return x.clear();
            case "court": return x.court();
            case "person": return x.person(a[0], a[1]);
            case "clashes": return x.clashes(a[0]);
            case "pillow": return x.pillow(a[0], a[1]);
            case "heard": return x.heard(a[0], a[1]);
            case "now": return x.now(a[0]);
            case "lays": return x.lays(a[0], a[1]);
            case "night": return x.night(a[0]);
            case "slips": return x.slips(a[0]);
            case "mixes": return x.mixes(a[0], a[1]);
            case "examines": return x.examines(a[0]);
            case "undo": return x.undo();
            case "whose": return x.whose(a[0], a[1]);
            default: return answerOfOthers(call, a);
        }
    }

    private long answerOfOthers(String call, int[] a) {
        switch (call) {
            case "so": return x.so(a[0]);
            case "tally": return x.tally(a[0], a[1]);
            case "fit": return x.fit(a[0]);
            case "looks": return x.looks();
            case "next": return x.next();
            case "inNights": return x.inNights(a[0], a[1], a[2]);
            case "notes": return x.notes(a[0], a[1], a[2]);
            case "forget": return x.forget();
            case "which": return x.which(a[0]);
            case "odds": return x.odds(a[0], a[1], a[2], a[3]);
            case "rate": return x.rate(a[0], a[1]);
            case "keep": return x.keep(a[0]);
            case "back": return x.back(a[0]);
            case "count": return x.count(a[0]);
            case "trace": return x.trace();
            default: throw new IllegalArgumentException(call);
        }
    }
}
