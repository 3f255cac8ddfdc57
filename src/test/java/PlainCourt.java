import java.math.BigInteger;
import java.util.ArrayDeque;
import java.util.ArrayList;
import java.util.Arrays;
import java.util.HashSet;
import java.util.List;
import java.util.Set;
import java.util.regex.Matcher;
import java.util.regex.Pattern;

/**
 * The document once more, in the plainest Java, by other means than the class: sets and lists,
 * every way tried. Random runs hold the class against it. Answers are by call name.
 */
final class PlainCourt {
    private static final class Now {
        int[] bed = new int[0];
        int[][] heard = new int[3][7];
        Set<Integer> examined = new HashSet<>();
        int night = 0;

        Now copy() {
            Now n = new Now();
            n.bed = bed.clone();
            n.heard = new int[heard.length][];
            for (int q = 0; q < heard.length; q++) {
                n.heard[q] = heard[q].clone();
            }
            n.examined = new HashSet<>(examined);
            n.night = night;
            return n;
        }
    }

    private final StringBuilder text = new StringBuilder();
    private List<int[]> people = new ArrayList<>();
    private Set<List<Integer>> clashing = new HashSet<>();
    private int pillows = 3;
    private Now now = new Now();
    private final ArrayDeque<Now> past = new ArrayDeque<>();
    private final List<int[]> noted = new ArrayList<>();
    private Now[] images = new Now[2];
    private long trace = 0;

    long ask(String call, int[] a) {
        switch (call) {
            case "type": return type(a[0]);
            case "clear": return clear();
            case "court": return court();
            case "person": return person(a[0], a[1]);
            case "clashes": return clashes(a[0]);
            case "pillow": return pillow(a[0], a[1]);
            case "heard": return isPillow(a[0]) && in(a[1], 0, 6) ? now.heard[a[0]][a[1]] : -1;
            case "now": return nowOf(a[0]);
            case "lays": return lays(a[0], a[1]);
            case "night": return night(a[0]);
            case "slips": return slips(a[0]);
            case "mixes": return mixes(a[0], a[1]);
            case "examines": return examines(a[0]);
            case "undo": return undo();
            case "whose": return whose(a[0], a[1]);
            case "so": return so(a[0]);
            case "tally": return tally(a[0], a[1]);
            case "fit": return fit(a[0]);
            case "looks": return looks();
            case "next": return next();
            case "inNights": return inNights(a[0], a[1], a[2]);
            case "notes": return notes(a[0], a[1], a[2]);
            case "forget": return forget();
            case "which": return which(a[0]);
            case "odds": return odds(a[0], a[1], a[2], a[3]);
            case "rate": return rate(a[0], a[1]);
            case "keep": return keep(a[0]);
            case "back": return back(a[0]);
            case "count": return count(a[0]);
            case "trace": return trace;
            default: throw new IllegalArgumentException(call);
        }
    }

    private static boolean in(int v, int least, int most) {
        return v >= least && v <= most;
    }

    private boolean isPillow(int q) {
        return in(q, 0, pillows - 1);
    }

    private boolean isPerson(int p) {
        return in(p, 0, people.size() - 1);
    }

    private static int bits(Iterable<Integer> set) {
        int b = 0;
        for (int i : set) {
            b += 1 << i;
        }
        return b;
    }

    private static Set<Integer> setOf(int bits) {
        Set<Integer> s = new HashSet<>();
        for (int i = 0; i < 8; i++) {
            if ((bits & 1 << i) != 0) {
                s.add(i);
            }
        }
        return s;
    }

    private long type(int letter) {
        if (!in(letter, 0, 255)) {
            return -1;
        }
        if (text.length() == 200) {
            return -3;
        }
        text.append((char) letter);
        return text.length();
    }

    private long clear() {
        int n = text.length();
        text.setLength(0);
        return n;
    }

    /** Tokens by a pattern, then what may stand there by a row of states. */
    private long court() {
        Matcher m = Pattern.compile("[0-9]+|[^ ]", Pattern.DOTALL).matcher(text);
        List<int[]> newPeople = new ArrayList<>();
        Set<List<Integer>> newClashing = new HashSet<>();
        int newPillows = 3;
        int items = 0;
        List<String> item = new ArrayList<>();
        while (m.find()) {
            String token = m.group();
            String head = item.isEmpty() ? "" : item.get(0);
            boolean fine;
            if (item.isEmpty()) {
                fine = token.equals("x") || token.equals("q") && items == 0 || token.equals("p") && newPeople.size() < 6;
            } else if (item.size() == (head.equals("q") ? 2 : 3)) {
                fine = token.equals(";");
            } else {
                int most = head.equals("q") ? 6 : head.equals("x") ? 6 : item.size() == 1 ? 127 : 10;
                fine = token.matches("0|[1-9][0-9]{0,2}") && Integer.parseInt(token) <= most
                        && !(head.equals("q") && token.equals("0"))
                        && !(head.equals("x") && item.size() == 2 && token.equals(item.get(1)));
            }
            if (!fine) {
                return -10 - m.start();
            }
            item.add(token);
            if (token.equals(";")) {
                int a = Integer.parseInt(item.get(1));
                int b = head.equals("q") ? 0 : Integer.parseInt(item.get(2));
                if (head.equals("q")) {
                    newPillows = a;
                } else if (head.equals("p")) {
                    newPeople.add(new int[] {a, b});
                } else {
                    newClashing.add(Arrays.asList(Math.min(a, b), Math.max(a, b)));
                }
                items++;
                item.clear();
            }
        }
        if (!item.isEmpty()) {
            return -10 - text.length();
        }
        people = newPeople;
        clashing = newClashing;
        pillows = newPillows;
        now = new Now();
        now.heard = new int[pillows][7];
        now.bed = new int[people.size()];
        for (int p = 0; p < now.bed.length; p++) {
            now.bed[p] = p < pillows ? p : -9;
        }
        past.clear();
        noted.clear();
        images = new Now[2];
        text.setLength(0);
        return items;
    }

    private Set<Integer> knows(int p) {
        return setOf(people.get(p)[0]);
    }

    private long person(int p, int what) {
        if (!isPerson(p) || !in(what, 0, 3)) {
            return -1;
        }
        if (what < 2) {
            return people.get(p)[what];
        }
        if (what == 2) {
            return now.bed[p];
        }
        Set<Integer> safe = new HashSet<>(setOf((1 << pillows) - 1));
        for (int o = 0; o < people.size(); o++) {
            Set<Integer> both = knows(o);
            both.retainAll(knows(p));
            if (o != p && !both.isEmpty()) {
                safe.remove(now.bed[o]);
            }
        }
        return bits(safe);
    }

    private boolean clash(int a, int b) {
        return clashing.contains(Arrays.asList(Math.min(a, b), Math.max(a, b)));
    }

    private long clashes(int t) {
        if (!in(t, 0, 6)) {
            return -1;
        }
        int b = 0;
        for (int o = 0; o < 7; o++) {
            b += clash(t, o) ? 1 << o : 0;
        }
        return b;
    }

    private Set<Integer> things(int q) {
        Set<Integer> s = new HashSet<>();
        for (int t = 0; t < 7; t++) {
            if (now.heard[q][t] != 0) {
                s.add(t);
            }
        }
        return s;
    }

    private Set<Integer> lying(int q) {
        Set<Integer> s = new HashSet<>();
        for (int p = 0; p < people.size(); p++) {
            if (now.bed[p] == q) {
                s.add(p);
            }
        }
        return s;
    }

    private long pillow(int q, int what) {
        if (!isPillow(q) || !in(what, 0, 2)) {
            return -1;
        }
        return what == 0 ? bits(things(q)) : what == 1 ? bits(lying(q)) : now.examined.contains(q) ? 1 : 0;
    }

    private Set<Integer> thingsOf(Iterable<Integer> qs) {
        Set<Integer> s = new HashSet<>();
        for (int q : qs) {
            s.addAll(things(q));
        }
        return s;
    }

    private Set<Integer> all() {
        return thingsOf(setOf((1 << pillows) - 1));
    }

    private long nowOf(int what) {
        switch (what) {
            case 0: return now.night;
            case 1: return bits(thingsOf(now.examined));
            case 2:
                int twos = 0;
                for (List<Integer> two : clashing) {
                    twos += all().containsAll(two) ? 1 : 0;
                }
                return twos;
            case 3: return bits(all());
            case 4:
                int b = 0;
                for (int t = 0; t < 7; t++) {
                    int who = 0;
                    for (int p = 0; p < people.size(); p++) {
                        who += knows(p).contains(t) ? 1 : 0;
                    }
                    b += who == 1 ? 1 << t : 0;
                }
                return b;
            case 5: return past.size();
            default: return -1;
        }
    }

    private void remember() {
        past.addLast(now.copy());
        if (past.size() > 10) {
            past.removeFirst();
        }
    }

    private long lays(int p, int q) {
        if (!isPerson(p) || !in(q, -1, pillows - 1)) {
            return -1;
        }
        remember();
        int was = now.bed[p];
        now.bed[p] = q == -1 ? -9 : q;
        return was;
    }

    private Integer said(int p, int z, int night) {
        BigInteger x = BigInteger.valueOf(7919L * z + 6151L * p + 4253L * night + 1);
        int d = x.multiply(x).mod(BigInteger.valueOf(65521)).intValue() / 8;
        List<Integer> known = new ArrayList<>(knows(p));
        known.sort(null);
        if (d % 10 >= people.get(p)[1] || known.isEmpty()) {
            return null;
        }
        return known.get(d / 10 % known.size());
    }

    private long night(int z) {
        if (!in(z, 0, 9999)) {
            return -1;
        }
        if (now.night == 999) {
            return -2;
        }
        remember();
        int who = 0;
        for (int p = 0; p < people.size(); p++) {
            Integer t = said(p, z, now.night);
            who += t == null ? 0 : 1;
            if (t != null && now.bed[p] != -9 && now.heard[now.bed[p]][t] < 99) {
                now.heard[now.bed[p]][t]++;
            }
        }
        now.night++;
        return who;
    }

    private long slips(int q) {
        if (!isPillow(q)) {
            return -1;
        }
        remember();
        int had = things(q).size();
        now.heard[q] = new int[7];
        now.examined.remove(q);
        return had;
    }

    private long mixes(int a, int b) {
        if (!isPillow(a) || !isPillow(b) || a == b) {
            return -1;
        }
        remember();
        for (int t = 0; t < 7; t++) {
            int sum = now.heard[a][t] + now.heard[b][t];
            now.heard[a][t] = sum > 99 ? 99 : sum;
            now.heard[b][t] = sum > 99 ? 99 : sum;
        }
        return things(b).size();
    }

    private long examines(int q) {
        if (!isPillow(q)) {
            return -1;
        }
        if (now.examined.contains(q)) {
            return -2;
        }
        remember();
        int before = thingsOf(now.examined).size();
        now.examined.add(q);
        return thingsOf(now.examined).size() - before;
    }

    private long undo() {
        if (past.isEmpty()) {
            return -2;
        }
        now = past.removeLast();
        return past.size();
    }

    private long whose(int q, int what) {
        if (!isPillow(q) || !in(what, 0, 1)) {
            return -1;
        }
        int many = 0;
        int best = -9;
        for (int g = (1 << people.size()) - 1; g >= 0; g--) {
            Set<Integer> together = new HashSet<>();
            for (int p : setOf(g)) {
                together.addAll(knows(p));
            }
            if (together.containsAll(things(q))) {
                many++;
                best = best == -9 || setOf(g).size() <= setOf(best).size() ? g : best;
            }
        }
        return what == 0 ? many : best;
    }

    private long so(int what) {
        if (!in(what, 0, 1)) {
            return -1;
        }
        int best = 0;
        int most = -1;
        for (int g = 127; g >= 0; g--) {
            boolean peace = true;
            int sum = 0;
            for (int a : setOf(g)) {
                for (int b : setOf(g)) {
                    peace &= !clash(a, b);
                }
                for (int q = 0; q < pillows; q++) {
                    sum += now.heard[q][a];
                }
            }
            if (peace && sum >= most) {
                most = sum;
                best = g;
            }
        }
        return what == 0 ? best : most;
    }

    private long tally(int a, int b) {
        if (!isPillow(a) || !isPillow(b) || a == b) {
            return -1;
        }
        int many = 0;
        for (int t = 0; t < 7; t++) {
            many += now.heard[a][t] > 0 != now.heard[b][t] > 0 ? 1 : 0;
        }
        return many;
    }

    private int[] bestWay;
    private int bestSum;

    private void tryAll(int[] way, int p, int sum, Set<Integer> free) {
        if (p == way.length) {
            if (sum > bestSum) {
                bestSum = sum;
                bestWay = way.clone();
            }
            return;
        }
        way[p] = -9;
        tryAll(way, p + 1, sum, free);
        for (int q = 0; q < pillows; q++) {
            if (free.contains(q)) {
                int gain = 0;
                for (int t : knows(p)) {
                    gain += now.heard[q][t];
                }
                Set<Integer> left = new HashSet<>(free);
                left.remove(q);
                way[p] = q;
                tryAll(way, p + 1, sum + gain, left);
            }
        }
    }

    private long fit(int p) {
        if (p != -1 && !isPerson(p)) {
            return -1;
        }
        bestSum = -1;
        tryAll(new int[people.size()], 0, 0, setOf((1 << pillows) - 1));
        return p == -1 ? bestSum : bestWay[p];
    }

    private long looks() {
        for (int size = 0; size <= pillows; size++) {
            for (int g = 0; g < 1 << pillows; g++) {
                Set<Integer> with = setOf(g);
                boolean sized = with.size() == size;
                with.addAll(now.examined);
                if (sized && thingsOf(with).equals(all())) {
                    return g;
                }
            }
        }
        return -9;
    }

    private long next() {
        int best = -9;
        int most = -1;
        for (int q = pillows - 1; q >= 0; q--) {
            Set<Integer> fresh = things(q);
            fresh.removeAll(thingsOf(now.examined));
            if (!now.examined.contains(q) && fresh.size() >= most) {
                most = fresh.size();
                best = q;
            }
        }
        return best;
    }

    private long inNights(int z, int n, int q) {
        if (!in(z, 0, 9999) || !in(n, 0, 20) || !isPillow(q)) {
            return -1;
        }
        Set<Integer> s = things(q);
        for (int i = 0; i < n; i++) {
            s.addAll(saidOn(q, (z + i) % 10000, now.night + i));
        }
        return bits(s);
    }

    private Set<Integer> saidOn(int q, int z, int night) {
        Set<Integer> s = new HashSet<>();
        for (int p : lying(q)) {
            Integer t = said(p, z, night);
            if (t != null) {
                s.add(t);
            }
        }
        return s;
    }

    private long notes(int q, int t, int is) {
        if (!isPillow(q) || !in(t, 0, 6) || !in(is, 0, 1)) {
            return -1;
        }
        if (noted.size() == 5) {
            return -3;
        }
        noted.add(new int[] {q, t, is});
        return noted.size();
    }

    private long forget() {
        int n = noted.size();
        noted.clear();
        return n;
    }

    private long which(int what) {
        if (!in(what, 0, 1)) {
            return -1;
        }
        List<Integer> fine = new ArrayList<>();
        for (int z = 0; z < 500; z++) {
            boolean agrees = true;
            for (int[] note : noted) {
                agrees = agrees && saidOn(note[0], z, now.night).contains(note[1]) == (note[2] == 1);
            }
            if (agrees) {
                fine.add(z);
            }
        }
        return what == 0 ? fine.size() : fine.isEmpty() ? -9 : fine.get(0);
    }

    private long odds(int p, int t, int n, int what) {
        if (!isPerson(p) || !in(t, 0, 6) || !in(n, 0, 5) || !in(what, 0, 1)) {
            return -1;
        }
        BigInteger lower = BigInteger.ONE;
        BigInteger not = BigInteger.ONE;
        for (int i = 0; i < n && knows(p).contains(t); i++) {
            int whole = 10 * knows(p).size();
            lower = lower.multiply(BigInteger.valueOf(whole));
            not = not.multiply(BigInteger.valueOf(whole - people.get(p)[1]));
        }
        BigInteger upper = lower.subtract(not);
        BigInteger g = upper.gcd(lower);
        return (what == 0 ? upper : lower).divide(g).longValueExact();
    }

    private long rate(int kind, int q) {
        if (!in(kind, 0, 5) || !isPillow(q)) {
            return -1000000;
        }
        trace += new int[] {1, 11, 101, 1011, 10101, 100001}[kind];
        int some = things(q).size();
        int times = Arrays.stream(now.heard[q]).sum();
        int liers = lying(q).size();
        return new int[] {some, some + times, some - liers, 2 * (some + times), some - liers + q, some + now.night}[kind];
    }

    private long keep(int image) {
        if (!in(image, 0, 1)) {
            return -1;
        }
        images[image] = now.copy();
        return now.night;
    }

    private long back(int image) {
        if (!in(image, 0, 1)) {
            return -1;
        }
        if (images[image] == null) {
            return -2;
        }
        now = images[image].copy();
        past.clear();
        return now.night;
    }

    private long count(int what) {
        switch (what) {
            case 0: return people.size();
            case 1: return pillows;
            case 2: return noted.size();
            case 3: return text.length();
            default: return -1;
        }
    }
}
