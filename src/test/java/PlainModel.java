import java.math.BigInteger;
import java.util.ArrayDeque;
import java.util.ArrayList;
import java.util.Arrays;
import java.util.Deque;
import java.util.HashMap;
import java.util.List;
import java.util.Map;
import java.util.TreeSet;
import java.util.regex.Matcher;
import java.util.regex.Pattern;

/** The document said once more in other ways than the program's, to be compared with it. */
final class PlainModel {
    private static final int BAD = -1, STATE = -2, FULL = -3, NONE = -9;
    private static final Pattern TOKEN = Pattern.compile("[0-9]+|[^ ]", Pattern.DOTALL);
    private static final Pattern NUMBER = Pattern.compile("0|[1-9][0-9]{0,2}");

    /** Parts 1 and 2: never changed in place, so that undone and images are references. */
    private static final class Now implements Cloneable {
        List<Integer> inflows = List.of(0);
        List<Integer> losses = List.of(0, 0, 0, 0, 0, 0, 0, 0, 0, 0);
        int draft, cap, time, volume, fails, lacking, spilt;

        Now copy() {
            try {
                return (Now) clone();
            } catch (CloneNotSupportedException e) {
                throw new IllegalStateException(e);
            }
        }

        int flow(int t) {
            return inflows.get(t % inflows.size());
        }

        void pass(int inflow) {
            int level = volume + inflow - losses.get(volume / 100) - draft;
            fails += level < 0 ? 1 : 0;
            lacking += level < 0 ? -level : 0;
            spilt += level > cap ? level - cap : 0;
            volume = level < 0 ? 0 : level > cap ? cap : level;
            time++;
        }

        Now full(int newCap, int newDraft) {
            Now run = copy();
            run.cap = newCap;
            run.draft = newDraft;
            run.volume = newCap;
            run.time = run.fails = run.lacking = run.spilt = 0;
            return run;
        }

        Now ran(int periods) {
            for (int i = 0; i < periods; i++) {
                pass(flow(time));
            }
            return this;
        }
    }

    private Now now = new Now();
    private final StringBuilder text = new StringBuilder();
    private final Deque<Now> older = new ArrayDeque<>();
    private final Now[] images = new Now[2];
    private final List<int[]> seen = new ArrayList<>();

    private Now change() {
        older.push(now);
        if (older.size() > 6) {
            older.removeLast();
        }
        now = now.copy();
        return now;
    }

    int type(int letter) {
        if (letter < 0 || letter > 255) return BAD;
        if (text.length() == 120) return FULL;
        return text.append((char) letter).length();
    }

    int clear() {
        int had = text.length();
        text.setLength(0);
        return had;
    }

    int tells() {
        Now next = new Now();
        String left = "idce";
        List<Integer> numbers = new ArrayList<>();
        char open = 0;
        int items = 0;
        Matcher tokens = TOKEN.matcher(text);
        while (tokens.find()) {
            String token = tokens.group();
            int fault = -10 - tokens.start();
            if (open == 0) {
                if (!left.contains(token)) return fault;
                open = token.charAt(0);
                left = left.replace(token, "");
                numbers.clear();
            } else if (token.equals(";")) {
                if (numbers.size() < (open == 'e' ? 10 : 1)) return fault;
                if (open == 'i') next.inflows = List.copyOf(numbers);
                if (open == 'e') next.losses = List.copyOf(numbers);
                if (open == 'd') next.draft = numbers.get(0);
                if (open == 'c') next.cap = next.volume = numbers.get(0);
                open = 0;
                items++;
            } else {
                if (!NUMBER.matcher(token).matches()) return fault;
                numbers.add(Integer.parseInt(token));
                int most = open == 'i' ? 12 : open == 'e' ? 10 : 1;
                int greatest = open == 'c' ? 999 : open == 'e' ? 9 : 99;
                if (numbers.size() > most || numbers.get(numbers.size() - 1) > greatest) return fault;
            }
        }
        if (open != 0) return -10 - text.length();
        change();
        now = next;
        text.setLength(0);
        return items;
    }

    int passes(int n) {
        if (n < 1 || n > 99) return BAD;
        if (now.time + n > 999) return STATE;
        int had = now.fails;
        return change().ran(n).fails - had;
    }

    int drafts(int q) {
        if (q < 0 || q > 99) return BAD;
        int was = now.draft;
        if (was == q) return STATE;
        change().draft = q;
        return was;
    }

    int caps(int c) {
        if (c < 0 || c > 999) return BAD;
        int was = now.cap;
        if (was == c) return STATE;
        change().cap = c;
        if (now.volume > c) {
            now.spilt += now.volume - c;
            now.volume = c;
        }
        return was;
    }

    int flows(int t, int v) {
        if (t < 0 || t >= now.inflows.size() || v < 0 || v > 99) return BAD;
        List<Integer> flows = new ArrayList<>(now.inflows);
        int was = flows.set(t, v);
        if (was == v) return STATE;
        change().inflows = flows;
        return was;
    }

    int undo() {
        if (older.isEmpty()) return STATE;
        now = older.pop();
        return older.size();
    }

    int inflow(int t) {
        return t < 0 || t >= now.inflows.size() ? BAD : now.inflows.get(t);
    }

    int loss(int v) {
        return v < 0 || v > 999 ? BAD : now.losses.get(v / 100);
    }

    int lowest(int l) {
        if (l < 0 || l > now.inflows.size()) return BAD;
        int best = Integer.MAX_VALUE;
        for (int s = 0; s < now.inflows.size(); s++) {
            int sum = 0;
            for (int i = 0; i < l; i++) sum += now.flow(s + i);
            best = Math.min(best, sum);
        }
        return best;
    }

    /** A fraction in least terms. */
    private record Q(long up, long low) implements Comparable<Q> {
        static Q of(long up, long low) {
            long g = BigInteger.valueOf(up).gcd(BigInteger.valueOf(low)).longValue();
            return new Q(up / g, low / g);
        }

        public int compareTo(Q other) {
            return Long.compare(up * other.low, other.up * low);
        }

        Q middle(Q other) {
            return of(up * other.low + other.up * low, 2 * low * other.low);
        }
    }

    private Q mean() {
        return Q.of(now.inflows.stream().mapToInt(i -> i).sum(), now.inflows.size());
    }

    private Q height(int l, Q q) {
        long up = l * q.up - lowest(l) * q.low;
        return new Q(up, q.low);
    }

    private Q needOf(Q q) {
        Q best = height(0, q);
        for (int l = 1; l <= now.inflows.size(); l++) {
            if (height(l, q).compareTo(best) > 0) best = height(l, q);
        }
        return best;
    }

    int need(int q) {
        if (q < 0 || q > 99) return BAD;
        Q asked = Q.of(q, 1);
        return asked.compareTo(mean()) > 0 ? NONE : (int) needOf(asked).up;
    }

    int sure(int c, int what) {
        if (c < 0 || c > 999 || what < 0 || what > 1) return BAD;
        TreeSet<Q> tried = new TreeSet<>(List.of(Q.of(0, 1), mean()));
        for (int l = 1; l <= now.inflows.size(); l++) tried.add(Q.of(c + lowest(l), l));
        for (Q q : tried.descendingSet()) {
            if (q.compareTo(mean()) <= 0 && needOf(q).compareTo(Q.of(c, 1)) <= 0) {
                return (int) (what == 0 ? q.up : q.low);
            }
        }
        throw new IllegalStateException("no sure draft");
    }

    int piece(int k, int what) {
        if (k < -1 || what < 0 || what > 2 || k == -1 && what > 0) return BAD;
        TreeSet<Q> bends = new TreeSet<>(List.of(Q.of(0, 1), mean()));
        for (int l = 0; l <= now.inflows.size(); l++) {
            for (int s = 0; s < l; s++) bends.add(Q.of(lowest(l) - lowest(s), l - s));
        }
        bends = new TreeSet<>(bends.headSet(mean(), true));
        Map<Integer, Q> from = new java.util.TreeMap<>();
        Q ahead = null;
        for (Q q : bends) {
            if (ahead != null) {
                Q middle = ahead.middle(q);
                for (int l = 0; l <= now.inflows.size(); l++) {
                    if (height(l, middle).compareTo(needOf(middle)) == 0) from.putIfAbsent(l, ahead);
                }
            }
            ahead = q;
        }
        if (k == -1) return from.size();
        if (k >= from.size()) return NONE;
        int l = new ArrayList<>(from.keySet()).get(k);
        return (int) (what == 0 ? l : what == 1 ? from.get(l).up : from.get(l).low);
    }

    int least(int m) {
        if (m < 1 || m > 120) return BAD;
        for (int c = 0; c <= 999; c++) {
            if (now.full(c, now.draft).ran(m).fails == 0) return c;
        }
        return NONE;
    }

    int round(int what) {
        if (what < 0 || what > 2) return BAD;
        Now run = now.full(now.cap, now.draft);
        List<Integer> volumes = new ArrayList<>();
        List<Integer> fails = new ArrayList<>();
        while (!volumes.contains(run.volume)) {
            volumes.add(run.volume);
            fails.add(run.fails);
            run.ran(now.inflows.size());
        }
        int earlier = volumes.lastIndexOf(run.volume);
        return what == 0 ? earlier : what == 1 ? volumes.size() - earlier : run.fails - fails.get(earlier);
    }

    int run(int t) {
        return t < 0 || t > 999 ? BAD : now.full(now.cap, now.draft).ran(t + 1).volume;
    }

    int odds(int k, int x, int what) {
        if (k < 0 || k > 8 || x < 0 || x > 10 || what < 0 || what > 1) return BAD;
        BigInteger good = BigInteger.ZERO;
        for (int halves = 0; halves < 1 << k; halves++) {
            Now run = now.copy();
            BigInteger ways = BigInteger.ONE;
            for (int i = 0; i < k; i++) {
                boolean half = (halves >> i & 1) == 1;
                run.pass(half ? run.flow(run.time) / 2 : run.flow(run.time));
                ways = ways.multiply(BigInteger.valueOf(half ? x : 10 - x));
            }
            if (run.fails == now.fails) good = good.add(ways);
        }
        Q odds = Q.of(good.longValueExact(), BigInteger.TEN.pow(k).longValueExact());
        return (int) (what == 0 ? odds.up : odds.low);
    }

    int sees(int t, int v) {
        if (t < 0 || t > 39 || v < 0 || v > 999) return BAD;
        if (seen.size() == 6) return FULL;
        seen.add(new int[] {t, v});
        return seen.size();
    }

    int forget() {
        int had = seen.size();
        seen.clear();
        return had;
    }

    private List<Integer> fitting() {
        List<Integer> fit = new ArrayList<>();
        for (int q = 0; q <= 99; q++) {
            int draft = q;
            if (seen.stream().allMatch(s -> now.full(now.cap, draft).ran(s[0] + 1).volume == s[1])) fit.add(q);
        }
        return fit;
    }

    int fits(int what) {
        if (what < 0 || what > 1) return BAD;
        List<Integer> fit = fitting();
        return what == 0 ? fit.size() : fit.isEmpty() ? NONE : fit.get(0);
    }

    int look() {
        List<Integer> fit = fitting();
        if (fit.size() < 2) return NONE;
        int[] groups = new int[40];
        for (int t = 0; t < 40; t++) {
            Map<Integer, Integer> byVolume = new HashMap<>();
            for (int q : fit) byVolume.merge(now.full(now.cap, q).ran(t + 1).volume, 1, Integer::sum);
            groups[t] = byVolume.values().stream().max(Integer::compare).get();
        }
        int least = Arrays.stream(groups).min().getAsInt();
        for (int t = 0; ; t++) {
            if (groups[t] == least) return t;
        }
    }

    int keep(int image) {
        if (image < 0 || image > 1) return BAD;
        images[image] = now.copy();
        return now.time;
    }

    int back(int image) {
        if (image < 0 || image > 1) return BAD;
        if (images[image] == null) return STATE;
        now = images[image].copy();
        older.clear();
        return now.time;
    }

    int count(int what) {
        int[] counts = {now.inflows.size(), now.draft, now.cap, now.time, now.volume, now.fails, now.lacking,
            now.spilt, now.inflows.stream().mapToInt(i -> i).sum(), seen.size(), text.length(), older.size()};
        return what < 0 || what >= counts.length ? BAD : counts[what];
    }
}
