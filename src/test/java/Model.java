import java.math.BigInteger;
import java.util.ArrayList;
import java.util.Arrays;
import java.util.HashSet;
import java.util.LinkedHashMap;
import java.util.List;
import java.util.Map;
import java.util.NoSuchElementException;
import java.util.Set;
import java.util.TreeMap;

/** The document once more, written for plainness with the Java library, to compare random runs with. */
public final class Model {
    record Node(int n, char rule, int a, List<Node> parts) {
        long products() {
            switch (rule) {
                case 'd': return (long) n * n;
                case 'c': return both(true) + (long) (a - 1) * (n / a - 1);
                case 'g': return both(true);
                case 'r': return 3 * parts.get(0).products() + n - 1;
                case 'b': return 2 * parts.get(0).products() + n / 2 - 1;
                default: return 0;
            }
        }

        long sums() {
            switch (rule) {
                case 'd': return (long) n * (n - 1);
                case 'c': case 'g': return both(false);
                case 'r': return 3 * parts.get(0).sums() + 2L * (n - 1);
                case 'b': return 2 * parts.get(0).sums() + n;
                default: return 0;
            }
        }

        private long both(boolean isProducts) {
            Node rows = parts.get(0);
            Node columns = parts.get(1);
            return isProducts ? a * rows.products() + (n / a) * columns.products()
                : a * rows.sums() + (n / a) * columns.sums();
        }

        long cost() {
            return 3 * products() + sums();
        }

        long depth() {
            switch (rule) {
                case 'd': return n;
                case 'c': return parts.get(0).depth() + parts.get(1).depth() + 1;
                case 'g': return parts.get(0).depth() + parts.get(1).depth();
                case 'r': return 2 * parts.get(0).depth() + 2;
                case 'b': return parts.get(0).depth() + 2;
                default: return 0;
            }
        }

        void list(int below, List<int[]> to) {
            to.add(new int[] {n, rule, rule == 'c' || rule == 'g' ? a : 0, below});
            for (Node part : parts) {
                part.list(below + 1, to);
            }
        }

        List<int[]> listed() {
            List<int[]> all = new ArrayList<>();
            list(0, all);
            return all;
        }
    }

    record Measure(int n, char rule, int a, int cost, int told) { }

    record Found(Node node, long cost) { }

    private static final int[] PRIMES = {17, 97, 193, 257, 7681};

    private final List<Integer> typed = new ArrayList<>();
    private List<Integer> result = new ArrayList<>();
    private List<Integer> ring = new ArrayList<>();
    private final TreeMap<Integer, Node> kept = new TreeMap<>();
    private final List<Measure> measures = new ArrayList<>();
    private int searches;
    private long[][] fixedMade = new long[0][];
    private final List<List<Integer>> digits = List.of(new ArrayList<>(), new ArrayList<>());
    private String product = "";
    private int grounds;

    public Model() {
        kept.put(1, new Node(1, '1', 0, List.of()));
    }

    private static void arg(boolean isRight) {
        if (!isRight) {
            throw new IllegalArgumentException();
        }
    }

    private static void can(boolean isRight) {
        if (!isRight) {
            throw new UnsupportedOperationException();
        }
    }

    private static void has(boolean isRight) {
        if (!isRight) {
            throw new NoSuchElementException();
        }
    }

    private static boolean in(int number, int least, int most) {
        return number >= least && number <= most;
    }

    private static boolean holds(int ground, int length) {
        return (PRIMES[ground] - 1) % length == 0;
    }

    private static int power(int ground, long base, long exponent) {
        return BigInteger.valueOf(base).modPow(BigInteger.valueOf(exponent), BigInteger.valueOf(PRIMES[ground])).intValue();
    }

    private static int unitOf(int ground, int length) {
        return power(ground, ROOTS[ground], (PRIMES[ground] - 1) / length);
    }

    private static final int[] ROOTS = new int[5];

    static {
        for (int i = 0; i < 5; i++) {
            ROOTS[i] = rootOf(PRIMES[i]);
        }
    }

    private static int rootOf(int prime) {
        for (int root = 2;; root++) {
            Set<Integer> powers = new HashSet<>();
            int power = 1;
            for (int i = 0; i < prime; i++) {
                power = power * root % prime;
                powers.add(power);
            }
            if (powers.size() == prime - 1) {
                return root;
            }
        }
    }

    private static List<Integer> sum(int ground, List<Integer> row, boolean isBack) {
        int n = row.size();
        int unit = unitOf(ground, n);
        List<Integer> made = new ArrayList<>();
        for (int k = 0; k < n; k++) {
            BigInteger sum = BigInteger.ZERO;
            for (int i = 0; i < n; i++) {
                int turn = isBack ? n - i * k % n : i * k % n;
                sum = sum.add(BigInteger.valueOf(row.get(i)).multiply(BigInteger.valueOf(power(ground, unit, turn))));
            }
            BigInteger prime = BigInteger.valueOf(PRIMES[ground]);
            if (isBack) {
                sum = sum.multiply(BigInteger.valueOf(n).modInverse(prime));
            }
            made.add(sum.mod(prime).intValue());
        }
        return made;
    }

    public int type(int number) {
        if (typed.size() == 64) {
            throw new IllegalStateException();
        }
        typed.add(number);
        return typed.size();
    }

    public int wipe() {
        int was = typed.size();
        typed.clear();
        return was;
    }

    public int root(int ground) {
        arg(in(ground, 0, 4));
        return ROOTS[ground];
    }

    public int unit(int ground, int length) {
        arg(in(ground, 0, 4) && in(length, 1, 64));
        can(holds(ground, length));
        return unitOf(ground, length);
    }

    public int plain(int ground, boolean isBack) {
        arg(in(ground, 0, 4));
        can(!typed.isEmpty() && holds(ground, typed.size()));
        result = sum(ground, typed, isBack);
        return result.get(0);
    }

    public int done(int ground, boolean isBack) {
        arg(in(ground, 0, 4));
        has(!typed.isEmpty() && kept.containsKey(typed.size()));
        can(fits(ground, typed.size()));
        result = sum(ground, typed, isBack);
        return result.get(0);
    }

    public int grid(int ground, int rows) {
        arg(in(ground, 0, 4) && in(rows, 1, 64));
        can(!typed.isEmpty() && typed.size() % rows == 0);
        int columns = typed.size() / rows;
        can(holds(ground, rows) && holds(ground, columns));
        int down = unitOf(ground, rows);
        int across = unitOf(ground, columns);
        List<Integer> made = new ArrayList<>();
        for (int r = 0; r < rows; r++) {
            for (int c = 0; c < columns; c++) {
                BigInteger sum = BigInteger.ZERO;
                for (int i = 0; i < rows; i++) {
                    for (int j = 0; j < columns; j++) {
                        long units = (long) power(ground, down, i * r) * power(ground, across, j * c);
                        sum = sum.add(BigInteger.valueOf(units).multiply(BigInteger.valueOf(typed.get(i * columns + j))));
                    }
                }
                made.add(sum.mod(BigInteger.valueOf(PRIMES[ground])).intValue());
            }
        }
        result = made;
        return result.get(0);
    }

    public int keep() {
        can(!typed.isEmpty());
        ring = new ArrayList<>(typed);
        return ring.size();
    }

    public int around(int ground) {
        arg(in(ground, 0, 4));
        int n = typed.size();
        can(n > 0 && ring.size() == n && holds(ground, n));
        List<Integer> made = new ArrayList<>();
        for (int k = 0; k < n; k++) {
            BigInteger sum = BigInteger.ZERO;
            for (int i = 0; i < n; i++) {
                sum = sum.add(BigInteger.valueOf(typed.get(i)).multiply(BigInteger.valueOf(ring.get((k - i + n) % n))));
            }
            made.add(sum.mod(BigInteger.valueOf(PRIMES[ground])).intValue());
        }
        result = made;
        return result.get(0);
    }

    public int results() {
        return result.size();
    }

    public int result(int place) {
        has(in(place, 0, result.size() - 1));
        return result.get(place);
    }

    private static boolean canHave(int n, char rule, int a) {
        boolean isSplit = a >= 2 && n % a == 0 && n / a >= 2;
        switch (rule) {
            case 'd': return n <= 16;
            case 'c': return isSplit;
            case 'g': return isSplit && BigInteger.valueOf(a).gcd(BigInteger.valueOf(n / a)).intValue() == 1;
            case 'r': return n >= 3 && BigInteger.valueOf(n).isProbablePrime(30);
            case 'b': return List.of(2, 4, 8, 16, 32, 64).contains(n);
            default: return false;
        }
    }

    private static List<Integer> partLengths(int n, char rule, int a) {
        switch (rule) {
            case 'c': case 'g': return List.of(n / a, a);
            case 'r': return List.of(n - 1);
            case 'b': return List.of(n / 2);
            default: return List.of();
        }
    }

    public int set(int length, char rule, int a) {
        arg(in(length, 2, 64) && canHave(length, rule, a));
        List<Node> parts = new ArrayList<>();
        for (int part : partLengths(length, rule, a)) {
            can(kept.containsKey(part) || part <= 16);
            parts.add(kept.containsKey(part) ? kept.get(part) : new Node(part, 'd', 0, List.of()));
        }
        Node node = new Node(length, rule, a, parts);
        kept.put(length, node);
        return (int) node.cost();
    }

    public boolean drop(int length) {
        arg(in(length, 2, 64));
        return kept.remove(length) != null;
    }

    public int kept() {
        return kept.size();
    }

    public char rule(int length) {
        arg(in(length, 1, 64));
        has(kept.containsKey(length));
        return kept.get(length).rule();
    }

    public int nodes(int length) {
        arg(in(length, 1, 64));
        has(kept.containsKey(length));
        return kept.get(length).listed().size();
    }

    public int node(int length, int index, char what) {
        arg(in(length, 1, 64) && "nrad".indexOf(what) >= 0);
        has(kept.containsKey(length));
        List<int[]> all = kept.get(length).listed();
        has(in(index, 0, all.size() - 1));
        return all.get(index)["nrad".indexOf(what)];
    }

    public int figure(int length, char what) {
        arg(in(length, 1, 64) && "pscd".indexOf(what) >= 0);
        has(kept.containsKey(length));
        Node node = kept.get(length);
        long[] figures = {node.products(), node.sums(), node.cost(), node.depth()};
        return Math.toIntExact(figures["pscd".indexOf(what)]);
    }

    public boolean fits(int ground, int length) {
        arg(in(ground, 0, 4) && in(length, 1, 64));
        has(kept.containsKey(length));
        for (int[] node : kept.get(length).listed()) {
            if (!holds(ground, node[0])) {
                return false;
            }
        }
        return true;
    }

    /** The lengths that come into a search, as its words say. */
    private static Set<Integer> lengthsFor(int told) {
        Set<Integer> all = new HashSet<>();
        for (int n = told; n >= 1; n--) {
            if (told % n == 0 || all.contains(n + 1)) {
                all.add(n);
            }
        }
        return all;
    }

    private int bestFor(int ground, int told, boolean isMeasured) {
        Map<Integer, Found> found = new TreeMap<>();
        found.put(1, new Found(kept.get(1), 0));
        for (int n = 2; n <= told; n++) {
            if (!lengthsFor(told).contains(n) || !holds(ground, n)) {
                continue;
            }
            for (char rule : "dcgrb".toCharArray()) {
                for (int a = 0; a <= n; a++) {
                    boolean isAsked = rule == 'c' || rule == 'g' || a == 0;
                    if (isAsked && canHave(n, rule, a) && found.keySet().containsAll(partLengths(n, rule, a))) {
                        Found next = found(n, rule, a, found, isMeasured);
                        if (!found.containsKey(n) || next.cost() < found.get(n).cost()) {
                            found.put(n, next);
                        }
                    }
                }
            }
        }
        kept.put(told, found.get(told).node());
        return (int) found.get(told).cost();
    }

    private Found found(int n, char rule, int a, Map<Integer, Found> found, boolean isMeasured) {
        List<Node> parts = new ArrayList<>();
        for (int part : partLengths(n, rule, a)) {
            parts.add(found.get(part).node());
        }
        long cost = 0;
        switch (rule) {
            case 'd': cost = 3L * n * n + n * (n - 1L); break;
            case 'c': cost = 3L * (a - 1) * (n / a - 1) + a * found.get(n / a).cost() + n / a * found.get(a).cost(); break;
            case 'g': cost = a * found.get(n / a).cost() + n / a * found.get(a).cost(); break;
            case 'r': cost = 3 * found.get(n - 1).cost() + 5L * (n - 1); break;
            default: cost = 2 * found.get(n / 2).cost() + 3L * (n / 2 - 1) + n; break;
        }
        for (Measure measure : measures) {
            boolean isSame = measure.n == n && measure.rule == rule && measure.a == a;
            if (isMeasured && isSame && searches - measure.told < 4) {
                cost = measure.cost;
            }
        }
        return new Found(new Node(n, rule, a, parts), cost);
    }

    public int search(int ground, int length) {
        arg(in(ground, 0, 4) && in(length, 2, 64));
        can(holds(ground, length));
        return bestFor(ground, length, false);
    }

    public int measure(int length, char rule, int a, int cost) {
        arg(in(length, 2, 64) && canHave(length, rule, a) && in(cost, 0, 99999));
        int ownA = rule == 'c' || rule == 'g' ? a : 0;
        if (!measures.removeIf(m -> m.n == length && m.rule == rule && m.a == ownA) && measures.size() == 20) {
            measures.remove(0);
        }
        measures.add(new Measure(length, rule, ownA, cost, searches));
        return measures.size();
    }

    public int searchMeasured(int ground, int length) {
        arg(in(ground, 0, 4) && in(length, 2, 64));
        can(holds(ground, length));
        int cost = bestFor(ground, length, true);
        searches++;
        return cost;
    }

    public int fresh() {
        return (int) measures.stream().filter(m -> searches - m.told < 4).count();
    }

    public long ways(int ground, int length) {
        arg(in(ground, 0, 4) && in(length, 1, 64));
        can(holds(ground, length));
        return trees(ground, length);
    }

    private static long trees(int ground, int n) {
        if (n == 1) {
            return 1;
        }
        if (!holds(ground, n)) {
            return 0;
        }
        long sum = 0;
        for (char rule : "dcgrb".toCharArray()) {
            boolean needsA = rule == 'c' || rule == 'g';
            for (int a = needsA ? 2 : 0; a <= (needsA ? n : 0); a++) {
                if (canHave(n, rule, a)) {
                    long product = 1;
                    for (int part : partLengths(n, rule, a)) {
                        product *= trees(ground, part);
                    }
                    sum += product;
                }
            }
        }
        return sum;
    }

    private static List<String> steps(int n, List<Integer> outs) {
        Map<String, Integer> made = new LinkedHashMap<>();
        for (int k = 0; k < n; k++) {
            int there = 0;
            for (int i = 1; i < n; i++) {
                int power = i * k % n;
                String sign = power * 2 == n ? "-" : "+";
                int other = i;
                if (power != 0 && power * 2 != n) {
                    other = numberOf(made, n, "* " + i + " " + power);
                }
                there = numberOf(made, n, sign + " " + there + " " + other);
            }
            outs.add(there);
        }
        return new ArrayList<>(made.keySet());
    }

    private static int numberOf(Map<String, Integer> made, int n, String step) {
        made.putIfAbsent(step, n + made.size());
        return made.get(step);
    }

    public int program(int length) {
        arg(in(length, 1, 8));
        return steps(length, new ArrayList<>()).size();
    }

    public int step(int length, int index, char what) {
        arg(in(length, 1, 8) && "olr".indexOf(what) >= 0);
        List<String> steps = steps(length, new ArrayList<>());
        has(in(index, 0, steps.size() - 1));
        String[] words = steps.get(index).split(" ");
        return what == 'o' ? words[0].charAt(0) : Integer.parseInt(words[what == 'l' ? 1 : 2]);
    }

    public int out(int length, int place) {
        arg(in(length, 1, 8));
        has(in(place, 0, length - 1));
        List<Integer> outs = new ArrayList<>();
        steps(length, outs);
        return outs.get(place);
    }

    /** {cosine, sine} of a place of so many parts of a turn. */
    private static long[] entry(int parts, int place) {
        if (place > parts / 2) {
            long[] ahead = entry(parts, place - parts / 2);
            return new long[] {-ahead[0], -ahead[1]};
        }
        if (place > parts / 4) {
            long[] ahead = entry(parts, parts / 2 - place);
            return new long[] {-ahead[0], ahead[1]};
        }
        if (parts == 4) {
            return place == 0 ? new long[] {16384, 0} : new long[] {0, 16384};
        }
        long cosine = entry(parts / 2, place)[0];
        return new long[] {Math.round(Math.sqrt(134217728 + 8192 * cosine)), Math.round(Math.sqrt(134217728 - 8192 * cosine))};
    }

    public int fixed() {
        int n = typed.size() / 2;
        can(List.of(4, 8, 16, 32, 64).contains(typed.size()));
        for (int number : typed) {
            can(in(number, -32768, 32767));
        }
        long[][] pairs = new long[n][];
        for (int i = 0; i < n; i++) {
            int place = turned(i, n);
            pairs[i] = new long[] {typed.get(2 * place), typed.get(2 * place + 1)};
        }
        int scale = 0;
        for (int m = 2; m <= n; m *= 2) {
            if (Arrays.stream(pairs).anyMatch(pair -> Math.abs(pair[0]) > 8191 || Math.abs(pair[1]) > 8191)) {
                scale++;
                for (int i = 0; i < n; i++) {
                    pairs[i] = new long[] {nearest(pairs[i][0], 2), nearest(pairs[i][1], 2)};
                }
            }
            for (int start = 0; start < n; start += m) {
                for (int k = 0; k < m / 2; k++) {
                    long[] turn = entry(64, 64 / m * k);
                    long[] p = pairs[start + k];
                    long[] q = pairs[start + k + m / 2];
                    long real = nearest(q[0] * turn[0] + q[1] * turn[1], 16384);
                    long imaginary = nearest(q[1] * turn[0] - q[0] * turn[1], 16384);
                    pairs[start + k] = new long[] {p[0] + real, p[1] + imaginary};
                    pairs[start + k + m / 2] = new long[] {p[0] - real, p[1] - imaginary};
                }
            }
        }
        fixedMade = pairs;
        return scale;
    }

    private static long nearest(long number, long divisor) {
        long below = Math.floorDiv(number, divisor);
        return 2 * (number - below * divisor) >= divisor ? below + 1 : below;
    }

    public int fixedAt(int place, boolean isImaginary) {
        has(in(place, 0, fixedMade.length - 1));
        return (int) fixedMade[place][isImaginary ? 1 : 0];
    }

    public int table(int place, boolean isSine) {
        arg(in(place, 0, 63));
        return (int) entry(64, place)[isSine ? 1 : 0];
    }

    public int digit(boolean isSecond, int digit) {
        arg(in(digit, 0, 9));
        List<Integer> row = digits.get(isSecond ? 1 : 0);
        if (row.size() == 24) {
            throw new IllegalStateException();
        }
        row.add(digit);
        return row.size();
    }

    public int wipeDigits() {
        int was = digits.get(0).size() + digits.get(1).size();
        digits.get(0).clear();
        digits.get(1).clear();
        return was;
    }

    private static BigInteger numberOf(List<Integer> row) {
        StringBuilder text = new StringBuilder("0");
        for (int i = row.size() - 1; i >= 0; i--) {
            text.append(row.get(i));
        }
        return new BigInteger(text.toString());
    }

    public int multiply() {
        can(!digits.get(0).isEmpty() && !digits.get(1).isEmpty());
        product = new StringBuilder(numberOf(digits.get(0)).multiply(numberOf(digits.get(1))).toString()).reverse().toString();
        int lesser = Math.min(digits.get(0).size(), digits.get(1).size());
        grounds = 193 > 81 * lesser ? 1 : 193 * 257 > 81 * lesser ? 2 : 3;
        return product.length();
    }

    public int product(int place) {
        has(in(place, 0, product.length() - 1));
        return product.charAt(place) - '0';
    }

    public int joined() {
        has(grounds > 0);
        return grounds;
    }

    public int turned(int place, int length) {
        arg(List.of(2, 4, 8, 16, 32, 64).contains(length) && in(place, 0, length - 1));
        String bits = Integer.toBinaryString(place + length).substring(1);
        return Integer.parseInt(new StringBuilder(bits).reverse().toString(), 2);
    }

    public int cycles(int rows, int columns) {
        arg(in(rows, 1, 64) && in(columns, 1, 64) && rows * columns <= 64);
        Set<Set<Integer>> all = new HashSet<>();
        for (int start = 0; start < rows * columns; start++) {
            Set<Integer> cycle = new HashSet<>();
            int at = start;
            while (cycle.add(at)) {
                at = at % columns * rows + at / columns;
            }
            all.add(cycle);
        }
        return all.size();
    }

    public long checksum() {
        BigInteger sum = BigInteger.valueOf(7);
        for (int number : result) {
            sum = sum.multiply(BigInteger.valueOf(31)).add(BigInteger.valueOf(number));
        }
        return sum.longValue();
    }

    public float zeroShare() {
        has(!result.isEmpty());
        return (float) result.stream().filter(n -> n == 0).count() / (float) result.size();
    }

    public double meanCost() {
        return (double) kept.values().stream().mapToLong(Node::cost).sum() / (double) kept.size();
    }

    public boolean isSound() {
        return true;
    }
}
