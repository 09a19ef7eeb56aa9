import java.math.BigInteger;
import java.util.ArrayList;
import java.util.Arrays;
import java.util.HashMap;
import java.util.List;
import java.util.Map;

/** The document written a second time, slowly and plainly, to compare with. */
final class PlainModel {
    private static final long NONE = -1;
    private static final long UNKNOWN = -1000000001;
    private static final long OUTSIDE = -1000000002;
    private static final long NOT = -1000000003;
    private static final long FULL = -1000000004;
    private static final Map<Character, long[]> LETTERS = Map.of(
        'R', new long[] {1, 1, 0, 1}, 'L', new long[] {1, 0, 1, 1}, 'r', new long[] {1, -1, 0, 1},
        'l', new long[] {1, 0, -1, 1}, 'S', new long[] {0, -1, 1, 0}, 's', new long[] {0, 1, -1, 0});
    private static final long[] ONE = {1, 0, 0, 1};

    private record Entry(int s, int u, boolean alike) { }

    private record Picture(List<long[]> shelf, long seed) { }

    private List<long[]> shelf = new ArrayList<>();
    private final List<List<long[]>> past = new ArrayList<>();
    private final List<Entry> book = new ArrayList<>();
    private final Picture[] images = new Picture[2];
    private final StringBuilder text = new StringBuilder();
    private long fault = NONE;
    private long seed = 0;

    // ---- squares

    private static long[] times(long[] x, long[] y) {
        BigInteger[] p = new BigInteger[4];
        long[] answer = new long[4];
        for (int i = 0; i < 4; i++) {
            int row = i / 2 * 2;
            int column = i % 2;
            p[i] = BigInteger.valueOf(x[row]).multiply(BigInteger.valueOf(y[column]))
                .add(BigInteger.valueOf(x[row + 1]).multiply(BigInteger.valueOf(y[column + 2])));
            answer[i] = p[i].longValueExact();
        }
        return answer;
    }

    private static long[] backOf(long[] x) {
        return new long[] {x[3], -x[1], -x[2], x[0]};
    }

    private static boolean isWithin(long[] x) {
        return Arrays.stream(x).allMatch(n -> n >= -1000000 && n <= 1000000);
    }

    private static long trace(long[] x) {
        return x[0] + x[3];
    }

    private static int kind(long[] x) {
        if (x[1] == 0 && x[2] == 0) {
            return 0;
        }
        long t = Math.abs(trace(x));
        return t <= 1 ? 1 : t == 2 ? 2 : 3;
    }

    private static long order(long[] x) {
        long[] power = ONE;
        for (int n = 1; n <= 12 && isWithin(power); n++) {
            power = times(power, x);
            if (Arrays.equals(power, ONE)) {
                return n;
            }
        }
        return NONE;
    }

    private static long[] positive(long[] x) {
        return trace(x) < 0 ? Arrays.stream(x).map(n -> -n).toArray() : x;
    }

    /** Carries a shift over so that the line along which it shifts lies flat, and reads the number above, right. */
    private static long by(long[] given) {
        long[] x = positive(given);
        long p = x[0] - 1 != 0 || x[1] != 0 ? x[1] : x[3] - 1;
        long q = x[0] - 1 != 0 || x[1] != 0 ? 1 - x[0] : -x[2];
        long common = BigInteger.valueOf(p).gcd(BigInteger.valueOf(q)).longValueExact();
        p /= common;
        q /= common;
        long[] cofactors = bezout(p, q);
        long[] c = {p, -cofactors[1], q, cofactors[0]};
        long[] flat = times(times(backOf(c), x), c);
        if (flat[0] != 1 || flat[2] != 0 || flat[3] != 1) {
            throw new IllegalStateException("not flat: " + Arrays.toString(flat));
        }
        return flat[1];
    }

    /** u, v with u p + v q = 1 for p, q without a common part. */
    private static long[] bezout(long p, long q) {
        if (q == 0) {
            return new long[] {p, 0};
        }
        long[] deeper = bezout(q, p % q);
        return new long[] {deeper[1], deeper[0] - p / q * deeper[1]};
    }

    /** The wheel by the continued fraction of the place that a stretch draws all to. */
    private static List<Long> wheel(long[] given) {
        if (kind(given) != 3) {
            return List.of();
        }
        long[] x = positive(given);
        long t = trace(x);
        long root = BigInteger.valueOf(t * t - 4).sqrt().longValueExact();
        long p = x[0] - x[3];
        long q = 2 * x[2];
        Map<String, Integer> seen = new HashMap<>();
        List<Long> parts = new ArrayList<>();
        List<Long> row = null;
        while (row == null) {
            if (parts.size() % 2 == 0) {
                Integer before = seen.put(p + " " + q, parts.size());
                if (before != null) {
                    row = parts.subList(before, parts.size());
                    break;
                }
            }
            long part = q > 0 ? Math.floorDiv(p + root, q) : Math.floorDiv(-p - root - 1, -q);
            parts.add(part);
            p = part * q - p;
            q = (t * t - 4 - p * p) / q;
        }
        List<Long> all = new ArrayList<>();
        long[] product = ONE;
        while (trace(product) < t) {
            for (int k = 0; k < row.size(); k++) {
                long n = row.get(k);
                product = times(product, k % 2 == 0 ? new long[] {1, n, 0, 1} : new long[] {1, 0, n, 1});
            }
            all.addAll(row);
        }
        if (trace(product) != t) {
            throw new IllegalStateException("no such wheel: " + Arrays.toString(given) + " " + all);
        }
        return least(all);
    }

    private static List<Long> least(List<Long> row) {
        List<Long> best = row;
        for (int start = 2; start < row.size(); start += 2) {
            List<Long> turned = new ArrayList<>(row.subList(start, row.size()));
            turned.addAll(row.subList(0, start));
            if (Arrays.compare(turned.toArray(new Long[0]), best.toArray(new Long[0])) < 0) {
                best = turned;
            }
        }
        return best;
    }

    private static long timesRound(List<Long> wheel) {
        for (int n = wheel.size() / 2; n >= 1; n--) {
            if (wheel.size() % (2 * n) == 0) {
                List<Long> built = new ArrayList<>();
                for (int i = 0; i < n; i++) {
                    built.addAll(wheel.subList(0, wheel.size() / n));
                }
                if (built.equals(wheel)) {
                    return n;
                }
            }
        }
        return 0;
    }

    static boolean alike(long[] x, long[] y) {
        if (kind(x) != kind(y) || trace(x) != trace(y)) {
            return false;
        }
        switch (kind(x)) {
            case 1:
                return x[2] > 0 == y[2] > 0;
            case 2:
                return by(x) == by(y);
            case 3:
                return wheel(x).equals(wheel(y));
            default:
                return true;
        }
    }

    /** Turns letter by letter. */
    private static long begins(long[] x, long[] y) {
        boolean isSuch = kind(x) == 3 && kind(y) == 3 && alike(x, y)
            && Arrays.stream(x).allMatch(n -> n >= 0) && Arrays.stream(y).allMatch(n -> n >= 0);
        if (!isSuch) {
            return NONE;
        }
        long a = x[0];
        long b = x[1];
        long c = x[2];
        long d = x[3];
        for (long turned = 0; turned <= 4000000; turned++) {
            if (a == y[0] && b == y[1] && c == y[2] && d == y[3]) {
                return turned;
            }
            if (a >= c && b >= d) {
                a -= c;
                b += a - d;
                d += c;
            } else {
                d -= b;
                c += d - a;
                a += b;
            }
        }
        throw new IllegalStateException("never comes round");
    }

    // ---- the face

    private boolean has(int s) {
        return s >= 0 && s < shelf.size();
    }

    private void remember() {
        past.add(new ArrayList<>(shelf));
        if (past.size() > 20) {
            past.remove(0);
        }
    }

    private long place(long[] x) {
        remember();
        shelf.add(x);
        return shelf.size() - 1;
    }

    private long exchange(int s, long[] x) {
        remember();
        return Arrays.equals(shelf.set(s, x), x) ? 0 : 1;
    }

    long feed(int letter) {
        if (letter < 0 || letter > 255) {
            return OUTSIDE;
        }
        if (text.length() == 60) {
            return FULL;
        }
        text.append((char) letter);
        return text.length();
    }

    long write() {
        if (shelf.size() == 12) {
            return FULL;
        }
        String letters = text.toString();
        text.setLength(0);
        long[] product = ONE;
        for (int i = 0; i < letters.length(); i++) {
            long[] letter = LETTERS.get(letters.charAt(i));
            product = letter == null ? null : times(product, letter);
            if (product == null || !isWithin(product)) {
                fault = i;
                return product == null ? -11 : -12;
            }
        }
        fault = NONE;
        return place(product);
    }

    long fault() {
        return fault;
    }

    long put(int a, int b, int c, int d) {
        long[] x = {a, b, c, d};
        if (!isWithin(x)) {
            return OUTSIDE;
        }
        if (x[0] * x[3] - x[1] * x[2] != 1) {
            return NOT;
        }
        return shelf.size() == 12 ? FULL : place(x);
    }

    long told(int what) {
        switch (what) {
            case 0:
                return shelf.size();
            case 1:
                return text.length();
            case 2:
                return families().stream().distinct().count();
            case 3:
                return greatest();
            case 4:
                return shelf.stream().filter(x -> alike(x, backOf(x))).count();
            case 5:
                return book.size();
            case 6:
                return wrong();
            case 7:
                return past.size();
            default:
                return OUTSIDE;
        }
    }

    private List<Long> families() {
        List<Long> answer = new ArrayList<>();
        for (int s = 0; s < shelf.size(); s++) {
            answer.add(family(s));
        }
        return answer;
    }

    private long greatest() {
        List<Long> all = families();
        int most = all.stream().mapToInt(Long::bitCount).max().orElse(0);
        return all.stream().filter(f -> Long.bitCount(f) == most).findFirst().orElse(0L);
    }

    private long family(int s) {
        long set = 0;
        for (int u = 0; u < shelf.size(); u++) {
            set += alike(shelf.get(s), shelf.get(u)) ? 1L << u : 0;
        }
        return set;
    }

    private long wrong() {
        for (int i = 0; i < book.size(); i++) {
            Entry e = book.get(i);
            if (!has(e.s) || !has(e.u) || alike(shelf.get(e.s), shelf.get(e.u)) != e.alike) {
                return i;
            }
        }
        return NONE;
    }

    long number(int s, int what) {
        return !has(s) ? UNKNOWN : what < 0 || what > 3 ? OUTSIDE : shelf.get(s)[what] + 1000000;
    }

    long square(int s, int what) {
        if (!has(s)) {
            return UNKNOWN;
        }
        long[] x = shelf.get(s);
        switch (what) {
            case 0:
                return kind(x);
            case 1:
                return trace(x) + 2000000;
            case 2:
                return trace(x) >= 0 ? 2 : 0;
            case 3:
                return order(x);
            case 4:
                return kind(x) == 2 ? by(x) + 3000000 : 0;
            case 5:
                return wheel(x).size();
            case 6:
                return timesRound(wheel(x));
            case 7:
                return alike(x, backOf(x)) ? 1 : 0;
            case 8:
                return family(s);
            case 9:
                return alike(x, new long[] {x[0], -x[1], -x[2], x[3]}) ? 1 : 0;
            case 10:
                return wheel(x).stream().mapToLong(n -> n).sum();
            default:
                return OUTSIDE;
        }
    }

    long run(int s, int k) {
        if (!has(s)) {
            return UNKNOWN;
        }
        List<Long> wheel = wheel(shelf.get(s));
        return k < 0 || k >= wheel.size() ? NONE : wheel.get(k);
    }

    long multiply(int a, int b) {
        if (!has(a) || !has(b)) {
            return UNKNOWN;
        }
        if (shelf.size() == 12) {
            return FULL;
        }
        long[] x = times(shelf.get(a), shelf.get(b));
        return isWithin(x) ? place(x) : NOT;
    }

    long back(int s) {
        return has(s) ? exchange(s, backOf(shelf.get(s))) : UNKNOWN;
    }

    long carry(int s, int b) {
        if (!has(s) || !has(b)) {
            return UNKNOWN;
        }
        long[] x = times(times(shelf.get(b), shelf.get(s)), backOf(shelf.get(b)));
        return isWithin(x) ? exchange(s, x) : NOT;
    }

    long raise(int s, int n) {
        if (!has(s)) {
            return UNKNOWN;
        }
        if (n < 0 || n > 20) {
            return OUTSIDE;
        }
        long[] x = ONE;
        for (int i = 1; i <= n; i++) {
            x = times(shelf.get(s), x);
            if (!isWithin(x)) {
                return NOT;
            }
        }
        return exchange(s, x);
    }

    long take(int s) {
        if (!has(s)) {
            return UNKNOWN;
        }
        remember();
        shelf.remove(s);
        return shelf.size();
    }

    private long draw(int n) {
        BigInteger next = BigInteger.valueOf(seed).multiply(BigInteger.valueOf(1103515245)).add(BigInteger.valueOf(12345));
        seed = next.mod(BigInteger.TWO.pow(31)).longValueExact();
        return seed / 65536 % n;
    }

    long drift(int n) {
        if (n < 1 || n > 12) {
            return OUTSIDE;
        }
        for (int i = 0; i < n && shelf.size() < 12; i++) {
            long letters = draw(8) + 2;
            long[] x = ONE;
            for (long k = 0; k < letters; k++) {
                x = times(x, LETTERS.get("RLrlSs".charAt((int) draw(6))));
            }
            place(x);
        }
        return shelf.size();
    }

    long undo(int n) {
        if (n < 1 || n > 20) {
            return OUTSIDE;
        }
        if (n > past.size()) {
            return NOT;
        }
        for (int i = 0; i < n; i++) {
            shelf = past.remove(past.size() - 1);
        }
        return shelf.size();
    }

    long pair(int s, int u, int what) {
        if (!has(s) || !has(u)) {
            return UNKNOWN;
        }
        long[] x = shelf.get(s);
        long[] y = shelf.get(u);
        switch (what) {
            case 0:
                return alike(x, y) ? 1 : 0;
            case 1:
                return Arrays.equals(times(x, y), times(y, x)) ? 1 : 0;
            case 2:
                return begins(x, y);
            default:
                return OUTSIDE;
        }
    }

    long note(int s, int u, boolean alike) {
        if (!has(s) || !has(u)) {
            return UNKNOWN;
        }
        if (book.size() == 20) {
            return FULL;
        }
        book.add(new Entry(s, u, alike));
        return book.size();
    }

    long tear() {
        int had = book.size();
        book.clear();
        return had;
    }

    long seed(int v) {
        if (v < 0) {
            return OUTSIDE;
        }
        long was = seed;
        seed = v;
        return was;
    }

    long keep(int i) {
        if (i < 0 || i > 1) {
            return UNKNOWN;
        }
        images[i] = new Picture(new ArrayList<>(shelf), seed);
        past.clear();
        return 1;
    }

    long goBack(int i) {
        if (i < 0 || i > 1) {
            return UNKNOWN;
        }
        if (images[i] == null) {
            return NOT;
        }
        shelf = new ArrayList<>(images[i].shelf);
        seed = images[i].seed;
        past.clear();
        return 1;
    }
}
