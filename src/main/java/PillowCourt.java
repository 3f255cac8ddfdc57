import java.util.Arrays;

/**
 * A court in which pillows are sworn: people talk asleep of what they know, pillows hear whoever
 * lies on them, and the court asks what follows from all that was heard.
 */
public final class PillowCourt {
    public static final int BAD = -1, STATE = -2, FULL = -3, NONE = -9;
    /** What none is, where a number may be below 0. */
    public static final int NO = -1000000;

    private static final int PEOPLE_MOST = 6;
    private static final int PILLOWS_MOST = 6;
    private static final int PILLOWS_FIRST = 3;
    private static final int PILLOW_SETS = 1 << PILLOWS_MOST;
    private static final int THINGS = 7;
    private static final int THING_SETS = 1 << THINGS;
    private static final int TALKS_MOST = 10;
    private static final int TEXT_MOST = 200;
    private static final int LETTER_MOST = 255;
    private static final int TOLD_NUMBER_MOST = 127;
    private static final int FAULT_BASE = -10;
    private static final int TIMES_MOST = 99;
    private static final int NIGHT_LAST = 999;
    private static final int DRAWS = 10000;
    private static final int DRAWS_TRIED = 500;
    private static final int AHEAD_MOST = 20;
    private static final int ODDS_NIGHTS_MOST = 5;
    private static final int NOTES_MOST = 5;
    private static final int UNDO_MOST = 10;
    private static final int IMAGES = 2;
    /** Euclid's way on numbers up to 70 needs far fewer steps. */
    private static final int EUCLID_STEPS_MOST = 100;

    private final Reader reader = new Reader();
    private final Scene scene = new Scene();
    private final Shelf shelf = new Shelf();
    private final Fitting fitting = new Fitting();
    private final KindPillow[] kinds = {new KindPillow(), new KindDown(), new KindBolster(),
        new KindGoose(), new KindHotel(), new KindBench()};
    private final int[] notedPillow = new int[NOTES_MOST];
    private final int[] notedThing = new int[NOTES_MOST];
    private final int[] notedIs = new int[NOTES_MOST];
    private final int[] ears = new int[PILLOWS_MOST];
    private Told told = new Told();
    private Told spare = new Told();
    private int noted;
    private long traced;

    public PillowCourt() {
        scene.begin(told);
    }

    // ---- the court

    public int type(int letter) {
        if (letter < 0 || letter > LETTER_MOST) {
            return BAD;
        }
        return reader.append(letter) ? reader.length : FULL;
    }

    public int clear() {
        return reader.empty();
    }

    public int court() {
        int answer = reader.read(spare);
        if (answer < 0) {
            return answer;
        }
        // The two change places, so that a text with a fault never touches what is told.
        Told anew = spare;
        spare = told;
        told = anew;
        reader.empty();
        scene.begin(told);
        shelf.empty();
        noted = 0;
        return answer;
    }

    public int person(int p, int what) {
        if (!told.hasPerson(p)) {
            return BAD;
        }
        switch (what) {
            case 0:
                return told.knows[p];
            case 1:
                return told.talks[p];
            case 2:
                return scene.bedOf(p);
            case 3:
                return safePillows(p);
            default:
                return BAD;
        }
    }

    public int clashes(int t) {
        return isThing(t) ? told.clashing[t] : BAD;
    }

    public int pillow(int q, int what) {
        if (!told.hasPillow(q)) {
            return BAD;
        }
        switch (what) {
            case 0:
                return scene.thingsOn(q);
            case 1:
                return scene.sleepersOn(q);
            case 2:
                return scene.isExamined(q) ? 1 : 0;
            default:
                return BAD;
        }
    }

    public int heard(int q, int t) {
        return told.hasPillow(q) && isThing(t) ? scene.times(q, t) : BAD;
    }

    public int now(int what) {
        switch (what) {
            case 0:
                return scene.nightNumber();
            case 1:
                return scene.knownThings();
            case 2:
                return told.clashesWithin(scene.allThings());
            case 3:
                return scene.allThings();
            case 4:
                return told.knownToOne();
            case 5:
                return shelf.undoable;
            default:
                return BAD;
        }
    }

    // ---- what is done

    public int lays(int p, int q) {
        if (!told.hasPerson(p) || (q != -1 && !told.hasPillow(q))) {
            return BAD;
        }
        int before = scene.bedOf(p);
        shelf.remember(scene);
        scene.lay(p, q == -1 ? NONE : q);
        return before;
    }

    public int night(int z) {
        if (!isDraw(z)) {
            return BAD;
        }
        if (scene.nightNumber() >= NIGHT_LAST) {
            return STATE;
        }
        shelf.remember(scene);
        return scene.sleep(told, z);
    }

    public int slips(int q) {
        if (!told.hasPillow(q)) {
            return BAD;
        }
        int before = scene.thingsOn(q);
        shelf.remember(scene);
        scene.slip(q);
        return Integer.bitCount(before);
    }

    public int mixes(int a, int b) {
        if (!areTwoPillows(a, b)) {
            return BAD;
        }
        shelf.remember(scene);
        scene.mix(a, b);
        return Integer.bitCount(scene.thingsOn(a));
    }

    public int examines(int q) {
        if (!told.hasPillow(q)) {
            return BAD;
        }
        if (scene.isExamined(q)) {
            return STATE;
        }
        int before = scene.knownThings();
        shelf.remember(scene);
        scene.examine(q);
        return Integer.bitCount(scene.knownThings() & ~before);
    }

    public int undo() {
        return shelf.restoreLatest(scene) ? shelf.undoable : STATE;
    }

    // ---- whose, what is so

    public int whose(int q, int what) {
        if (!told.hasPillow(q) || !isZeroOrOne(what)) {
            return BAD;
        }
        int needed = scene.thingsOn(q);
        int groups = 0;
        int fewest = NONE;
        for (int group = 0; group < 1 << told.people; group++) {
            if ((needed & ~told.knownTo(group)) == 0) {
                groups++;
                fewest = fewerOf(fewest, group);
            }
        }
        return what == 0 ? groups : fewest;
    }

    public int so(int what) {
        if (!isZeroOrOne(what)) {
            return BAD;
        }
        int likeliest = 0;
        int most = 0;
        for (int set = 1; set < THING_SETS; set++) {
            if (told.clashesWithin(set) == 0) {
                int times = scene.timesOfSet(set);
                if (times > most) {
                    most = times;
                    likeliest = set;
                }
            }
        }
        return what == 0 ? likeliest : most;
    }

    public int tally(int a, int b) {
        return areTwoPillows(a, b) ? Integer.bitCount(scene.thingsOn(a) ^ scene.thingsOn(b)) : BAD;
    }

    public int fit(int p) {
        if (p != -1 && !told.hasPerson(p)) {
            return BAD;
        }
        fitting.weigh(told, scene);
        return p == -1 ? fitting.explained() : fitting.pillowOf(told, p);
    }

    // ---- whom to examine

    public int looks() {
        int missing = scene.allThings() & ~scene.knownThings();
        int fewest = NONE;
        for (int set = 0; set < 1 << told.pillows; set++) {
            if ((missing & ~scene.thingsOnSet(set)) == 0) {
                fewest = fewerOf(fewest, set);
            }
        }
        return fewest;
    }

    public int next() {
        int known = scene.knownThings();
        int best = NONE;
        int most = -1;
        for (int q = 0; q < told.pillows; q++) {
            int fresh = Integer.bitCount(scene.thingsOn(q) & ~known);
            if (!scene.isExamined(q) && fresh > most) {
                most = fresh;
                best = q;
            }
        }
        return best;
    }

    // ---- nights

    public int inNights(int z, int n, int q) {
        if (!isDraw(z) || n < 0 || n > AHEAD_MOST || !told.hasPillow(q)) {
            return BAD;
        }
        int things = scene.thingsOn(q);
        for (int i = 0; i < n; i++) {
            listen((z + i) % DRAWS, scene.nightNumber() + i);
            things |= ears[q];
        }
        return things;
    }

    public int notes(int q, int t, int is) {
        if (!told.hasPillow(q) || !isThing(t) || !isZeroOrOne(is)) {
            return BAD;
        }
        if (noted >= NOTES_MOST) {
            return FULL;
        }
        notedPillow[noted] = q;
        notedThing[noted] = t;
        notedIs[noted] = is;
        noted++;
        return noted;
    }

    public int forget() {
        int before = noted;
        noted = 0;
        return before;
    }

    public int which(int what) {
        if (!isZeroOrOne(what)) {
            return BAD;
        }
        int draws = 0;
        int least = NONE;
        for (int z = 0; z < DRAWS_TRIED; z++) {
            listen(z, scene.nightNumber());
            if (agreesWithNotes()) {
                draws++;
                least = least == NONE ? z : least;
            }
        }
        return what == 0 ? draws : least;
    }

    public long odds(int p, int t, int n, int what) {
        if (!told.hasPerson(p) || !isThing(t) || n < 0 || n > ODDS_NIGHTS_MOST
                || !isZeroOrOne(what)) {
            return BAD;
        }
        int whole = TALKS_MOST * Integer.bitCount(told.knows[p]);
        if ((told.knows[p] >> t & 1) == 0 || whole == 0) {
            return what;
        }
        int silent = whole - told.talks[p];
        int common = commonDivisor(whole, silent);
        // In least terms a fraction's powers are, too, and so is what such a power leaves of 1.
        long lower = power(whole / common, n);
        return what == 0 ? lower - power(silent / common, n) : lower;
    }

    // ---- kinds, images

    public int rate(int kind, int q) {
        if (kind < 0 || kind >= kinds.length || !told.hasPillow(q)) {
            return NO;
        }
        KindPillow asked = kinds[kind];
        if (asked == null) {
            return NO;
        }
        asked.added = 0;
        int rating = asked.rating(scene, q);
        traced += asked.added;
        return rating;
    }

    public int keep(int image) {
        if (!isZeroOrOne(image)) {
            return BAD;
        }
        shelf.keepImage(image, scene);
        return scene.nightNumber();
    }

    public int back(int image) {
        if (!isZeroOrOne(image)) {
            return BAD;
        }
        return shelf.restoreImage(image, scene) ? scene.nightNumber() : STATE;
    }

    public int count(int what) {
        switch (what) {
            case 0:
                return told.people;
            case 1:
                return told.pillows;
            case 2:
                return noted;
            case 3:
                return reader.length;
            default:
                return BAD;
        }
    }

    public long trace() {
        return traced;
    }

    // ---- what the calls share

    private static boolean isThing(int t) {
        return t >= 0 && t < THINGS;
    }

    private static boolean isDraw(int z) {
        return z >= 0 && z < DRAWS;
    }

    private static boolean isZeroOrOne(int number) {
        return number == 0 || number == 1;
    }

    private boolean areTwoPillows(int a, int b) {
        return told.hasPillow(a) && told.hasPillow(b) && a != b;
    }

    /** Of sets that come in rising order, the first of the smallest ones. */
    private static int fewerOf(int fewest, int set) {
        return fewest == NONE || Integer.bitCount(set) < Integer.bitCount(fewest) ? set : fewest;
    }

    private int safePillows(int p) {
        int safe = 0;
        for (int q = 0; q < told.pillows; q++) {
            int others = scene.sleepersOn(q) & ~(1 << p);
            if ((told.knownTo(others) & told.knows[p]) == 0) {
                safe |= 1 << q;
            }
        }
        return safe;
    }

    /** Puts into ears what each pillow would hear in one such night, as all lie now. */
    private void listen(int z, int night) {
        Arrays.fill(ears, 0);
        for (int p = 0; p < told.people; p++) {
            int q = scene.bedOf(p);
            int thing = told.thingSaid(p, z, night);
            if (q >= 0 && q < ears.length && thing >= 0) {
                ears[q] |= 1 << thing;
            }
        }
    }

    private boolean agreesWithNotes() {
        for (int i = 0; i < noted; i++) {
            int q = notedPillow[i];
            if ((ears[q] >> notedThing[i] & 1) != notedIs[i]) {
                return false;
            }
        }
        return true;
    }

    private static int commonDivisor(int a, int b) {
        int larger = a;
        int smaller = b;
        for (int step = 0; step < EUCLID_STEPS_MOST && smaller != 0; step++) {
            int rest = larger % smaller;
            larger = smaller;
            smaller = rest;
        }
        return larger == 0 ? 1 : larger;
    }

    private static long power(int base, int exponent) {
        long product = 1;
        for (int i = 0; i < exponent; i++) {
            product *= base;
        }
        return product;
    }

    /** What the text tells: people, pillows, clashes. */
    private static final class Told {
        final int[] knows = new int[PEOPLE_MOST];
        final int[] talks = new int[PEOPLE_MOST];
        final int[] clashing = new int[THINGS];
        int people;
        int pillows = PILLOWS_FIRST;

        void begin() {
            Arrays.fill(clashing, 0);
            people = 0;
            pillows = PILLOWS_FIRST;
        }

        boolean hasPerson(int p) {
            return p >= 0 && p < people;
        }

        boolean hasPillow(int q) {
            return q >= 0 && q < pillows;
        }

        void addPerson(int known, int talk) {
            if (people < PEOPLE_MOST) {
                knows[people] = known;
                talks[people] = talk;
                people++;
            }
        }

        void addClash(int a, int b) {
            clashing[a] |= 1 << b;
            clashing[b] |= 1 << a;
        }

        int knownTo(int group) {
            int things = 0;
            for (int p = 0; p < people; p++) {
                if ((group >> p & 1) != 0) {
                    things |= knows[p];
                }
            }
            return things;
        }

        int knownToOne() {
            int once = 0;
            int more = 0;
            for (int p = 0; p < people; p++) {
                more |= once & knows[p];
                once |= knows[p];
            }
            return once & ~more;
        }

        int clashesWithin(int set) {
            int ends = 0;
            for (int t = 0; t < THINGS; t++) {
                if ((set >> t & 1) != 0) {
                    ends += Integer.bitCount(clashing[t] & set);
                }
            }
            // Each two was met from both its ends.
            return ends / 2;
        }

        /** The thing that a person says in a night, or NONE. */
        int thingSaid(int p, int z, int night) {
            int many = Integer.bitCount(knows[p]);
            long x = 7919L * z + 6151L * p + 4253L * night + 1;
            int draw = (int) (x * x % 65521 / 8);
            if (many == 0 || draw % 10 >= talks[p]) {
                return NONE;
            }
            return thingAt(knows[p], draw / 10 % many);
        }

        private static int thingAt(int set, int place) {
            int ahead = 0;
            for (int t = 0; t < THINGS; t++) {
                if ((set >> t & 1) != 0) {
                    if (ahead == place) {
                        return t;
                    }
                    ahead++;
                }
            }
            return NONE;
        }
    }

    /** How things are now. All of it is one row of numbers, so that a copy is one step. */
    private static final class Scene {
        static final int BEDS = PILLOWS_MOST * THINGS;
        static final int EXAMINED = BEDS + PEOPLE_MOST;
        static final int NIGHT = EXAMINED + 1;
        static final int SIZE = NIGHT + 1;

        final int[] cells = new int[SIZE];

        void begin(Told told) {
            Arrays.fill(cells, 0);
            for (int p = 0; p < PEOPLE_MOST; p++) {
                lay(p, told.hasPerson(p) && told.hasPillow(p) ? p : NONE);
            }
        }

        int times(int q, int t) {
            return cells[q * THINGS + t];
        }

        private void setTimes(int q, int t, int times) {
            cells[q * THINGS + t] = Math.min(times, TIMES_MOST);
        }

        int bedOf(int p) {
            return cells[BEDS + p];
        }

        void lay(int p, int q) {
            cells[BEDS + p] = q;
        }

        int nightNumber() {
            return cells[NIGHT];
        }

        boolean isExamined(int q) {
            return (cells[EXAMINED] >> q & 1) != 0;
        }

        void examine(int q) {
            cells[EXAMINED] |= 1 << q;
        }

        int thingsOn(int q) {
            int things = 0;
            for (int t = 0; t < THINGS; t++) {
                if (times(q, t) > 0) {
                    things |= 1 << t;
                }
            }
            return things;
        }

        int thingsOnSet(int set) {
            int things = 0;
            for (int q = 0; q < PILLOWS_MOST; q++) {
                if ((set >> q & 1) != 0) {
                    things |= thingsOn(q);
                }
            }
            return things;
        }

        int allThings() {
            return thingsOnSet(PILLOW_SETS - 1);
        }

        int knownThings() {
            return thingsOnSet(cells[EXAMINED]);
        }

        /** How often a pillow has heard things of a set, all together. */
        int timesOn(int q, int set) {
            int sum = 0;
            for (int t = 0; t < THINGS; t++) {
                if ((set >> t & 1) != 0) {
                    sum += times(q, t);
                }
            }
            return sum;
        }

        int timesOfSet(int set) {
            int sum = 0;
            for (int q = 0; q < PILLOWS_MOST; q++) {
                sum += timesOn(q, set);
            }
            return sum;
        }

        int sleepersOn(int q) {
            int sleepers = 0;
            for (int p = 0; p < PEOPLE_MOST; p++) {
                if (bedOf(p) == q) {
                    sleepers |= 1 << p;
                }
            }
            return sleepers;
        }

        int sleep(Told told, int z) {
            int talkers = 0;
            for (int p = 0; p < told.people; p++) {
                int thing = told.thingSaid(p, z, nightNumber());
                if (thing >= 0) {
                    talkers++;
                    hear(bedOf(p), thing);
                }
            }
            cells[NIGHT]++;
            return talkers;
        }

        private void hear(int q, int thing) {
            if (q >= 0 && q < PILLOWS_MOST) {
                setTimes(q, thing, times(q, thing) + 1);
            }
        }

        void slip(int q) {
            for (int t = 0; t < THINGS; t++) {
                setTimes(q, t, 0);
            }
            cells[EXAMINED] &= ~(1 << q);
        }

        void mix(int a, int b) {
            for (int t = 0; t < THINGS; t++) {
                int together = times(a, t) + times(b, t);
                setTimes(a, t, together);
                setTimes(b, t, together);
            }
        }
    }

    /** Scenes that are kept: those that may be undone, the oldest lost first, and the images. */
    private static final class Shelf {
        final int[] past = new int[UNDO_MOST * Scene.SIZE];
        final int[] images = new int[IMAGES * Scene.SIZE];
        final boolean[] isKept = new boolean[IMAGES];
        int undoable;
        int top;

        void empty() {
            undoable = 0;
            for (int image = 0; image < IMAGES; image++) {
                isKept[image] = false;
            }
        }

        void remember(Scene scene) {
            System.arraycopy(scene.cells, 0, past, top * Scene.SIZE, Scene.SIZE);
            top = (top + 1) % UNDO_MOST;
            undoable = Math.min(undoable + 1, UNDO_MOST);
        }

        boolean restoreLatest(Scene scene) {
            if (undoable == 0) {
                return false;
            }
            undoable--;
            top = (top + UNDO_MOST - 1) % UNDO_MOST;
            System.arraycopy(past, top * Scene.SIZE, scene.cells, 0, Scene.SIZE);
            return true;
        }

        void keepImage(int image, Scene scene) {
            System.arraycopy(scene.cells, 0, images, image * Scene.SIZE, Scene.SIZE);
            isKept[image] = true;
        }

        boolean restoreImage(int image, Scene scene) {
            if (!isKept[image]) {
                return false;
            }
            System.arraycopy(images, image * Scene.SIZE, scene.cells, 0, Scene.SIZE);
            undoable = 0;
            return true;
        }
    }

    /** The text, and how it is read. */
    private static final class Reader {
        static final int END = 0;
        static final int NUMBER = 1;
        static final int WRONG = 2;

        final int[] letters = new int[TEXT_MOST];
        int length;
        int place;
        /** The token at hand: what it is (a letter stands for itself), where it begins. */
        int token;
        int start;
        int number;

        boolean append(int letter) {
            if (length >= TEXT_MOST) {
                return false;
            }
            letters[length] = letter;
            length++;
            return true;
        }

        int empty() {
            int before = length;
            length = 0;
            return before;
        }

        /** How many items there are; FAULT_BASE less the fault's place, if there is one. */
        int read(Told into) {
            into.begin();
            place = 0;
            advance();
            int items = 0;
            // An item takes letters, so there are never more of them than letters.
            while (token != END && items <= TEXT_MOST) {
                // Reading stops at the token that can't stand there: its start is the fault.
                if (!readItem(into, items == 0)) {
                    return FAULT_BASE - start;
                }
                items++;
                advance();
            }
            return items;
        }

        private boolean readItem(Told into, boolean isFirst) {
            switch (token) {
                case 'q':
                    return isFirst && readPillows(into);
                case 'p':
                    return into.people < PEOPLE_MOST && readPerson(into);
                case 'x':
                    return readClash(into);
                default:
                    return false;
            }
        }

        private boolean readPillows(Told into) {
            if (!readNumber(1, PILLOWS_MOST)) {
                return false;
            }
            into.pillows = number;
            return readItemEnd();
        }

        private boolean readPerson(Told into) {
            if (!readNumber(0, TOLD_NUMBER_MOST)) {
                return false;
            }
            int known = number;
            if (!readNumber(0, TALKS_MOST)) {
                return false;
            }
            into.addPerson(known, number);
            return readItemEnd();
        }

        private boolean readClash(Told into) {
            if (!readNumber(0, THINGS - 1)) {
                return false;
            }
            int first = number;
            if (!readNumber(0, THINGS - 1) || number == first) {
                return false;
            }
            into.addClash(first, number);
            return readItemEnd();
        }

        private boolean readNumber(int least, int most) {
            advance();
            return token == NUMBER && number >= least && number <= most;
        }

        private boolean readItemEnd() {
            advance();
            return token == ';';
        }

        private void advance() {
            while (place < length && letters[place] == ' ') {
                place++;
            }
            start = place;
            if (place >= length) {
                token = END;
            } else if (isDigit(letters[place])) {
                token = scanNumber();
            } else {
                token = tokenOf(letters[place]);
                place++;
            }
        }

        private static boolean isDigit(int letter) {
            return letter >= '0' && letter <= '9';
        }

        private int scanNumber() {
            number = 0;
            while (place < length && isDigit(letters[place])) {
                // Once beyond what may be told it stays there, so no row of digits wraps around.
                if (number <= TOLD_NUMBER_MOST) {
                    number = number * 10 + letters[place] - '0';
                }
                place++;
            }
            boolean hasZeroAhead = place - start > 1 && letters[start] == '0';
            return hasZeroAhead || number > TOLD_NUMBER_MOST ? WRONG : NUMBER;
        }

        private static int tokenOf(int letter) {
            return letter == 'q' || letter == 'p' || letter == 'x' || letter == ';' ? letter : WRONG;
        }
    }

    /** Who lay where, one on each, as best it fits. */
    private static final class Fitting {
        final int[] gains = new int[PEOPLE_MOST * PILLOWS_MOST];
        /** By a person and the pillows already given: the most that he and all behind him explain. */
        final int[] most = new int[(PEOPLE_MOST + 1) * PILLOW_SETS];

        void weigh(Told told, Scene scene) {
            Arrays.fill(most, 0);
            for (int p = told.people - 1; p >= 0; p--) {
                for (int q = 0; q < PILLOWS_MOST; q++) {
                    gains[p * PILLOWS_MOST + q] = scene.timesOn(q, told.knows[p]);
                }
                for (int given = 0; given < PILLOW_SETS; given++) {
                    most[p * PILLOW_SETS + given] = bestOf(told, p, given);
                }
            }
        }

        private int bestOf(Told told, int p, int given) {
            int best = mostWith(p, given, NONE);
            for (int q = 0; q < told.pillows; q++) {
                if ((given >> q & 1) == 0) {
                    best = Math.max(best, mostWith(p, given, q));
                }
            }
            return best;
        }

        /** The most that a person and all behind him explain, if he has this pillow, or none. */
        private int mostWith(int p, int given, int q) {
            int behind = (p + 1) * PILLOW_SETS;
            if (q < 0) {
                return most[behind + given];
            }
            return gains[p * PILLOWS_MOST + q] + most[behind + (given | 1 << q)];
        }

        int explained() {
            return most[0];
        }

        int pillowOf(Told told, int person) {
            int given = 0;
            int pillow = NONE;
            for (int p = 0; p <= person; p++) {
                pillow = firstBest(told, p, given);
                if (pillow >= 0) {
                    given |= 1 << pillow;
                }
            }
            return pillow;
        }

        private int firstBest(Told told, int p, int given) {
            int best = most[p * PILLOW_SETS + given];
            if (mostWith(p, given, NONE) == best) {
                return NONE;
            }
            for (int q = 0; q < told.pillows; q++) {
                if ((given >> q & 1) == 0 && mostWith(p, given, q) == best) {
                    return q;
                }
            }
            return NONE;
        }
    }

    /** The kind over all others. Each body adds its own number to what the trace gets. */
    private static class KindPillow {
        long added;

        int rating(Scene scene, int q) {
            added += 1;
            return Integer.bitCount(scene.thingsOn(q));
        }
    }

    private static class KindDown extends KindPillow {
        int rating(Scene scene, int q) {
            added += 10;
            return super.rating(scene, q) + scene.timesOn(q, THING_SETS - 1);
        }
    }

    private static class KindBolster extends KindPillow {
        int rating(Scene scene, int q) {
            added += 100;
            return super.rating(scene, q) - Integer.bitCount(scene.sleepersOn(q));
        }
    }

    private static final class KindGoose extends KindDown {
        int rating(Scene scene, int q) {
            added += 1000;
            return 2 * super.rating(scene, q);
        }
    }

    private static final class KindHotel extends KindBolster {
        int rating(Scene scene, int q) {
            added += 10000;
            return super.rating(scene, q) + q;
        }
    }

    private static final class KindBench extends KindPillow {
        int rating(Scene scene, int q) {
            added += 100000;
            return super.rating(scene, q) + scene.nightNumber();
        }
    }
}
