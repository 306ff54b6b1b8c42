import java.util.ArrayList;
import java.util.List;

/**
 * The edges that the document names for plans, costs, kept plans, searches, measures, ways and programs: what stands
 * just within each bound, ties, what is full, and what goes stale. What is refused is in RefusedTest.
 */
public final class PlanEdgesTest {
    private static final Check CHECK = new Check("PlanEdgesTest");
    private static final int[] PRIMES = {17, 97, 193, 257, 7681};
    private static final String RULES = "dcgrb";

    /** A node as the works tells it, with its parts. */
    private record Seen(int n, char rule, int a, int below, List<Seen> parts) {
        int count() {
            int count = 1;
            for (Seen part : parts) {
                count += part.count();
            }
            return count;
        }
    }

    public static void main(String[] args) {
        lengthOne();
        whoCanHaveWhat();
        figuresOfAll();
        shortestOfEachRule();
        missingParts();
        partsAreTakenThen();
        setAndDrop();
        bestOfAll();
        firstOfSeveral();
        searchKeepsOne();
        measuredNodes();
        measuredCosts();
        freshForFour();
        whatIsCounted();
        atMostTwenty();
        staleOnesStay();
        waysOfAll();
        programs();
        meanOfAll();
        soundness();
        CHECK.end();
    }

    private static boolean fits(int ground, int length) {
        return (PRIMES[ground] - 1) % length == 0;
    }

    private static boolean isPrime(int n) {
        boolean isPrime = n >= 2;
        for (int i = 2; i < n; i++) {
            isPrime = isPrime && n % i != 0;
        }
        return isPrime;
    }

    private static int greatestCommonDivisor(int a, int b) {
        return b == 0 ? a : greatestCommonDivisor(b, a % b);
    }

    private static boolean needsA(char rule) {
        return rule == 'c' || rule == 'g';
    }

    private static boolean canHave(int n, char rule, int a) {
        switch (rule) {
            case 'd': return n >= 2 && n <= 16;
            case 'c': return a > 1 && a < n && n % a == 0;
            case 'g': return a > 1 && a < n && n % a == 0 && greatestCommonDivisor(a, n / a) == 1;
            case 'r': return n >= 3 && isPrime(n);
            default: return n == 2 || n == 4 || n == 8 || n == 16 || n == 32 || n == 64;
        }
    }

    private static int[] partLengths(int n, char rule, int a) {
        switch (rule) {
            case 'c': case 'g': return new int[] {n / a, a};
            case 'r': return new int[] {n - 1};
            case 'b': return new int[] {n / 2};
            default: return new int[0];
        }
    }

    /** A plan for each length up to this one. */
    private static Butterflyworks withAll(int most) {
        Butterflyworks x = new Butterflyworks();
        for (int n = 2; n <= most; n++) {
            setSome(x, n);
        }
        return x;
    }

    private static void setSome(Butterflyworks x, int n) {
        if (isPrime(n) && n > 2) {
            x.set(n, 'r', 0);
        } else if (n <= 16) {
            x.set(n, 'd', 0);
        } else {
            int a = 2;
            while (n % a != 0) {
                a++;
            }
            x.set(n, 'c', a);
        }
    }

    private static Seen seen(Butterflyworks x, int length) {
        return seen(x, length, 0);
    }

    private static Seen seen(Butterflyworks x, int length, int index) {
        int n = x.node(length, index, 'n');
        char rule = (char) x.node(length, index, 'r');
        int a = x.node(length, index, 'a');
        int below = x.node(length, index, 'd');
        List<Seen> parts = new ArrayList<>();
        int next = index + 1;
        for (int part : partLengths(n, rule, a)) {
            Seen made = seen(x, length, next);
            CHECK.due("18: length of a part of " + n, made.n, part);
            CHECK.due("18: how far below " + n, made.below, below + 1);
            next += made.count();
            parts.add(made);
        }
        return new Seen(n, rule, a, below, parts);
    }

    private static int products(Seen node) {
        switch (node.rule) {
            case 'd': return node.n * node.n;
            case 'c': return node.a * products(node.parts.get(0)) + node.n / node.a * products(node.parts.get(1))
                + (node.a - 1) * (node.n / node.a - 1);
            case 'g': return node.a * products(node.parts.get(0)) + node.n / node.a * products(node.parts.get(1));
            case 'r': return 3 * products(node.parts.get(0)) + node.n - 1;
            case 'b': return 2 * products(node.parts.get(0)) + node.n / 2 - 1;
            default: return 0;
        }
    }

    private static int sums(Seen node) {
        switch (node.rule) {
            case 'd': return node.n * (node.n - 1);
            case 'c': case 'g': return node.a * sums(node.parts.get(0)) + node.n / node.a * sums(node.parts.get(1));
            case 'r': return 3 * sums(node.parts.get(0)) + 2 * (node.n - 1);
            case 'b': return 2 * sums(node.parts.get(0)) + node.n;
            default: return 0;
        }
    }

    private static int depth(Seen node) {
        switch (node.rule) {
            case 'd': return node.n;
            case 'c': return depth(node.parts.get(0)) + depth(node.parts.get(1)) + 1;
            case 'g': return depth(node.parts.get(0)) + depth(node.parts.get(1));
            case 'r': return 2 * depth(node.parts.get(0)) + 2;
            case 'b': return depth(node.parts.get(0)) + 2;
            default: return 0;
        }
    }

    private static int cost(Seen node) {
        return 3 * products(node) + sums(node);
    }

    /** "for 1 it is that of the rule 1, for ever" */
    private static void lengthOne() {
        Butterflyworks x = new Butterflyworks();
        for (int i = 0; i < 2; i++) {
            CHECK.due("16: the length 1", x.rule(1), '1');
            CHECK.due("17: the length 1", x.nodes(1), 1);
            CHECK.due("18: its length", x.node(1, 0, 'n'), 1);
            CHECK.due("18: its rule", x.node(1, 0, 'r'), 49);
            CHECK.due("18: its a", x.node(1, 0, 'a'), 0);
            CHECK.due("18: the root is 0 below", x.node(1, 0, 'd'), 0);
            for (char what : "pscd".toCharArray()) {
                CHECK.due("19: figure " + what, x.figure(1, what), 0);
            }
            for (int ground = 0; ground < 5; ground++) {
                CHECK.due("20: the length 1 fits " + ground, x.fits(ground, 1), true);
                CHECK.due("25: the length 1 on " + ground, x.ways(ground, 1), 1L);
            }
            CHECK.due("15: it is kept", x.kept(), 1);
            CHECK.due("14: it is not dropped", Check.outcome(() -> x.drop(1)), "IllegalArgumentException");
            CHECK.due("13: nor set", Check.outcome(() -> x.set(1, '1', 0)), "IllegalArgumentException");
            CHECK.due("21: nor searched", Check.outcome(() -> x.search(0, 1)), "IllegalArgumentException");
        }
    }

    /** "n from 2 to 16"; "a, 2 or more"; "b 2 or more"; "a prime, 3 or more"; "2, 4, 8, 16, 32 or 64" */
    private static void whoCanHaveWhat() {
        for (int n = 2; n <= 64; n++) {
            Butterflyworks x = withAll(n - 1);
            Butterflyworks y = new Butterflyworks();
            for (char rule : RULES.toCharArray()) {
                for (int a = -1; a <= 66; a++) {
                    String what = rule + " " + a + " of " + n;
                    int length = n;
                    int told = a;
                    boolean isRight = canHave(n, rule, a);
                    Object set = Check.outcome(() -> x.set(length, rule, told));
                    CHECK.due("13: " + what, set instanceof Integer, isRight);
                    CHECK.due("13: " + what + " or else", isRight || set.equals("IllegalArgumentException"), true);
                    CHECK.due("22: " + what, Check.outcome(() -> y.measure(length, rule, told, 5)) instanceof Integer, isRight);
                }
            }
        }
        Butterflyworks x = new Butterflyworks();
        for (int a : new int[] {Integer.MIN_VALUE, Integer.MAX_VALUE, 0, -1, 99}) {
            CHECK.due("13: d takes any a", x.set(16, 'd', a), 1008);
            CHECK.due("13: r takes any a", x.set(3, 'r', a), 52);
            CHECK.due("13: b takes any a", x.set(2, 'b', a), 2);
            CHECK.due("18: a is 0 then", x.node(16, 0, 'a') + x.node(3, 0, 'a') + x.node(2, 0, 'a'), 0);
            x.drop(2);
        }
    }

    /** Each plan that can be, with its figures counted from its nodes. */
    private static void figuresOfAll() {
        for (int n = 2; n <= 64; n++) {
            Butterflyworks x = withAll(n - 1);
            for (char rule : RULES.toCharArray()) {
                for (int a = 2; a < (needsA(rule) ? n : 3); a++) {
                    if (canHave(n, rule, a)) {
                        int cost = x.set(n, rule, a);
                        Seen root = seen(x, n);
                        String what = " of " + rule + " " + a + " of " + n;
                        CHECK.due("16: rule" + what, x.rule(n), rule);
                        CHECK.due("18: a" + what, root.a, needsA(rule) ? a : 0);
                        CHECK.due("13: cost" + what, cost, cost(root));
                        CHECK.due("19: products" + what, x.figure(n, 'p'), products(root));
                        CHECK.due("19: sums" + what, x.figure(n, 's'), sums(root));
                        CHECK.due("19: cost" + what, x.figure(n, 'c'), cost(root));
                        CHECK.due("19: depth" + what, x.figure(n, 'd'), depth(root));
                        CHECK.due("17: nodes" + what, x.nodes(n), root.count());
                        int behind = n;
                        CHECK.due("18: behind the last" + what, Check.outcome(() -> x.node(behind, root.count(), 'n')), "NoSuchElementException");
                    }
                }
            }
        }
    }

    /** The least length of each rule, where a part is the length 1 or what a rule adds is nothing. */
    private static void shortestOfEachRule() {
        dueFigures(2, 'd', 0, 4, 2, 2, 1);
        dueFigures(2, 'b', 0, 0, 2, 2, 2);
        dueFigures(3, 'r', 0, 3 * 4 + 2, 3 * 2 + 4, 2 * 2 + 2, 2);
        dueFigures(4, 'c', 2, 2 * 4 + 2 * 4 + 1, 2 * 2 + 2 * 2, 2 + 2 + 1, 3);
        dueFigures(6, 'g', 2, 2 * 9 + 3 * 4, 2 * 6 + 3 * 2, 3 + 2, 3);
        dueFigures(6, 'g', 3, 3 * 4 + 2 * 9, 3 * 2 + 2 * 6, 2 + 3, 3);
        dueFigures(16, 'd', 0, 256, 240, 16, 1);
        dueFigures(17, 'r', 0, 3 * 256 + 16, 3 * 240 + 32, 2 * 16 + 2, 2);
        dueFigures(64, 'c', 4, 4 * 256 + 16 * 16 + 3 * 15, 4 * 240 + 16 * 12, 16 + 4 + 1, 3);
    }

    private static void dueFigures(int n, char rule, int a, int products, int sums, int depth, int nodes) {
        Butterflyworks x = new Butterflyworks();
        String what = rule + " " + a + " of " + n;
        CHECK.due("13: " + what, x.set(n, rule, a), 3 * products + sums);
        CHECK.due("19: products, " + what, x.figure(n, 'p'), products);
        CHECK.due("19: sums, " + what, x.figure(n, 's'), sums);
        CHECK.due("19: depth, " + what, x.figure(n, 'd'), depth);
        CHECK.due("17: nodes, " + what, x.nodes(n), nodes);
    }

    /** "for a length without one, d"; "a part has no plan, and is longer than 16" */
    private static void missingParts() {
        Butterflyworks x = new Butterflyworks();
        x.set(32, 'b', 0);
        CHECK.due("13: a part of 16 without a plan is d", x.node(32, 1, 'r'), (int) 'd');
        CHECK.due("13: that is not kept by it", Check.outcome(() -> x.rule(16)), "NoSuchElementException");
        x.set(17, 'r', 0);
        CHECK.due("13: the part of 17 is d too", x.node(17, 1, 'n') + x.node(17, 1, 'r'), 16 + 'd');
        CHECK.due("13: a part of 17", Check.outcome(() -> new Butterflyworks().set(34, 'c', 2)), "UnsupportedOperationException");
        CHECK.due("13: the other part of 17", Check.outcome(() -> new Butterflyworks().set(34, 'g', 17)), "UnsupportedOperationException");
        CHECK.due("13: 17 has a plan by now", x.set(34, 'c', 2), 2 * 3104 + 17 * 14 + 3 * 16);
        CHECK.due("13: b 64 with the kept 32", x.set(64, 'b', 0), 2 * (2 * 1008 + 45 + 32) + 93 + 64);
        for (int length = 2; length <= 64; length++) {
            Butterflyworks y = new Butterflyworks();
            for (char rule : RULES.toCharArray()) {
                for (int a = 2; a < (needsA(rule) ? length : 3); a++) {
                    if (canHave(length, rule, a)) {
                        int n = length;
                        int told = a;
                        boolean isLong = false;
                        for (int part : partLengths(length, rule, a)) {
                            isLong |= part > 16;
                        }
                        CHECK.due("13: " + rule + " " + a + " of " + n + " alone", Check.outcome(() -> y.set(n, rule, told))
                            .equals("UnsupportedOperationException"), isLong);
                        y.drop(length);
                    }
                }
            }
        }
    }

    /** "as they are then"; "does not change as those of its parts are set anew" */
    private static void partsAreTakenThen() {
        Butterflyworks x = new Butterflyworks();
        x.set(6, 'g', 2);
        x.set(2, 'b', 0);
        x.set(3, 'r', 0);
        CHECK.due("13: parts that were missing stay d", x.node(6, 1, 'r') + x.node(6, 2, 'r'), 2 * 'd');
        CHECK.due("13: its cost stays", x.figure(6, 'c'), 2 * 33 + 3 * 14);
        CHECK.due("13: set anew it takes them", x.set(6, 'g', 2), 2 * 16 + 3 * 2);
        CHECK.due("13: which 3 took too", x.node(6, 2, 'r'), (int) 'b');
        x.set(2, 'd', 0);
        x.drop(3);
        x.search(1, 3);
        CHECK.due("13: the root's parts stay", x.nodes(6), 6);
        CHECK.due("13: parts of parts stay", x.node(6, 2, 'r'), (int) 'b');
        CHECK.due("13: the second part stays", x.node(6, 4, 'r'), (int) 'b');
        CHECK.due("13: the cost stays", x.figure(6, 'c'), 38);
        x.set(4, 'c', 2);
        CHECK.due("13: one plan as both parts", x.node(4, 1, 'r') + x.node(4, 2, 'r'), 2 * 'd');
    }

    private static void setAndDrop() {
        Butterflyworks x = withAll(64);
        CHECK.due("15: all 64", x.kept(), 64);
        x.set(64, 'c', 8);
        CHECK.due("15: in place of the old one", x.kept(), 64);
        CHECK.due("14: the longest", x.drop(64), true);
        CHECK.due("14: the shortest", x.drop(2), true);
        CHECK.due("14: again", x.drop(2), false);
        CHECK.due("14: again, the longest", x.drop(64), false);
        CHECK.due("15: 62 are left", x.kept(), 62);
        for (int n = 3; n <= 63; n++) {
            CHECK.due("14: " + n, x.drop(n), true);
        }
        CHECK.due("15: that of 1 alone", x.kept(), 1);
        CHECK.due("16: it is kept", x.rule(1), '1');
    }

    /** Least cost on each ground for each length; "of several the first one", all the way down. */
    private static void bestOfAll() {
        for (int ground = 0; ground < 5; ground++) {
            for (int n = 2; n <= 64; n++) {
                if (fits(ground, n)) {
                    Butterflyworks x = new Butterflyworks();
                    CHECK.due("21: " + n + " on " + ground, x.search(ground, n), cost(best(n)));
                    CHECK.due("21: the tree of " + n + " on " + ground, seen(x, n), at(best(n), 0));
                    CHECK.due("20: it fits", x.fits(ground, n), true);
                    Butterflyworks y = new Butterflyworks();
                    CHECK.due("23: without measures, " + n + " on " + ground, y.searchMeasured(ground, n), cost(best(n)));
                    CHECK.due("23: the tree, " + n + " on " + ground, seen(y, n), at(best(n), 0));
                }
            }
        }
    }

    /** On the five grounds a length that fits has none but fitting parts, so that the ground does not matter. */
    private static Seen best(int n) {
        if (n == 1) {
            return new Seen(1, '1', 0, 0, List.of());
        }
        Seen best = null;
        for (char rule : RULES.toCharArray()) {
            for (int a = 2; a < (needsA(rule) ? n : 3); a++) {
                if (canHave(n, rule, a)) {
                    List<Seen> parts = new ArrayList<>();
                    for (int part : partLengths(n, rule, a)) {
                        parts.add(best(part));
                    }
                    Seen next = new Seen(n, rule, needsA(rule) ? a : 0, 0, parts);
                    best = best == null || cost(next) < cost(best) ? next : best;
                }
            }
        }
        return best;
    }

    private static Seen at(Seen node, int below) {
        List<Seen> parts = new ArrayList<>();
        for (Seen part : node.parts) {
            parts.add(at(part, below + 1));
        }
        return new Seen(node.n, node.rule, node.a, below, parts);
    }

    /** "by the rules in the order d, c, g, r, b, of one rule by lesser a", by two that cost the same, told both ways */
    private static void firstOfSeveral() {
        tie(1, 4, 'd', 0, 'c', 2);
        tie(0, 2, 'd', 0, 'b', 0);
        tie(0, 4, 'd', 0, 'b', 0);
        tie(0, 8, 'c', 4, 'b', 0);
        tie(1, 3, 'd', 0, 'r', 0);
        tie(4, 5, 'd', 0, 'r', 0);
        tie(1, 6, 'd', 0, 'g', 2);
        tie(1, 6, 'c', 3, 'g', 2);
        tie(1, 6, 'g', 2, 'g', 3);
        tie(1, 12, 'c', 2, 'c', 6);
        tie(1, 12, 'c', 3, 'c', 4);
        tie(1, 12, 'g', 3, 'g', 4);
        tie(1, 12, 'c', 6, 'g', 3);
        tie(4, 64, 'c', 32, 'b', 0);
        tie(4, 60, 'g', 12, 'g', 20);
        tie(4, 60, 'c', 30, 'g', 3);
    }

    private static void tie(int ground, int n, char rule, int a, char laterRule, int laterA) {
        for (boolean isLaterFirst : new boolean[] {false, true}) {
            String what = rule + " " + a + " before " + laterRule + " " + laterA + " of " + n;
            Butterflyworks x = new Butterflyworks();
            if (isLaterFirst) {
                x.measure(n, laterRule, laterA, 1);
            }
            x.measure(n, rule, a, 1);
            x.measure(n, laterRule, laterA, 1);
            CHECK.due("23: " + what, x.searchMeasured(ground, n), 1);
            CHECK.due("23: rule, " + what, x.rule(n), rule);
            CHECK.due("23: a, " + what, x.node(n, 0, 'a'), a);
            x.measure(n, laterRule, laterA, 0);
            CHECK.due("23: less is less, " + what, x.searchMeasured(ground, n), 0);
            CHECK.due("23: rule of less, " + what, x.rule(n), laterRule);
            CHECK.due("23: a of less, " + what, x.node(n, 0, 'a'), laterA);
        }
    }

    /** "The plan of the length that is told is kept then, its parts being those that were found" */
    private static void searchKeepsOne() {
        Butterflyworks x = new Butterflyworks();
        x.set(2, 'd', 0);
        x.set(8, 'd', 0);
        x.search(0, 8);
        CHECK.due("21: in place of the old one", x.rule(8), 'c');
        CHECK.due("21: no other one is kept", x.kept(), 3);
        CHECK.due("21: nor changed", x.rule(2), 'd');
        CHECK.due("21: its part is the one that was found", x.node(8, 4, 'r'), (int) 'b');
        CHECK.due("21: not the kept one", x.search(0, 8), cost(best(8)));
        Butterflyworks y = new Butterflyworks();
        y.search(3, 64);
        CHECK.due("21: the longest alone", y.kept(), 2);
        y.search(3, 2);
        CHECK.due("21: the shortest too", y.kept(), 3);
        CHECK.due("21: of the ring's part, again and again", y.search(4, 5), 53);
        CHECK.due("21: 5, 4 and the 2 in it", y.nodes(5), 6);
    }

    /** "has that cost in place of its own with all parts, also as a part of others, each time that it is done" */
    private static void measuredNodes() {
        Butterflyworks x = new Butterflyworks();
        x.measure(4, 'c', 2, 1);
        CHECK.due("23: itself", x.searchMeasured(0, 4), 1);
        CHECK.due("23: its parts are those that were found", x.node(4, 1, 'r'), (int) 'b');
        CHECK.due("23: figures are proved", x.figure(4, 'c'), 11);
        CHECK.due("23: twice in b 8, or by c 2", x.searchMeasured(0, 8), Math.min(2 * 1 + 9 + 8, 2 * 1 + 4 * 2 + 9));
        CHECK.due("23: four times and four times in c 16", x.searchMeasured(0, 16), 4 + 4 + 3 * 9);
        CHECK.due("23: proved figures of 16", x.figure(16, 'c'), 4 * 11 + 4 * 11 + 27);
        Butterflyworks y = new Butterflyworks();
        y.measure(4, 'c', 2, 2);
        CHECK.due("23: three times in r 5", y.searchMeasured(4, 5), 3 * 2 + 20);
        CHECK.due("23: 3 times in g 12", y.searchMeasured(1, 12), 3 * 2 + 4 * 16);
        CHECK.due("21: a search by proved costs leaves it", y.search(4, 5), 53);
        Butterflyworks z = new Butterflyworks();
        z.measure(12, 'c', 3, 0);
        CHECK.due("23: c with that a alone", z.searchMeasured(1, 12), 0);
        CHECK.due("23: a is 3", z.node(12, 0, 'a'), 3);
        CHECK.due("23: not of a part's length", z.searchMeasured(1, 4), 11);
        z.measure(12, 'c', 3, 97);
        z.measure(12, 'g', 3, 98);
        z.measure(12, 'g', 4, 99);
        CHECK.due("23: not that of another rule", z.searchMeasured(1, 12), 97);
    }

    /** "cost: the cost, 0 to 99999" */
    private static void measuredCosts() {
        Butterflyworks x = new Butterflyworks();
        CHECK.due("22: the least", x.measure(2, 'd', 0, 0), 1);
        CHECK.due("23: nothing", x.searchMeasured(0, 2), 0);
        CHECK.due("23: by what costs nothing", x.rule(2), 'd');
        CHECK.due("22: the greatest", x.measure(2, 'd', 0, 99999), 1);
        CHECK.due("22: the greatest of the other one", x.measure(2, 'b', 0, 99999), 2);
        CHECK.due("23: the greatest", x.searchMeasured(0, 2), 99999);
        CHECK.due("23: of two that are the same, the first one", x.rule(2), 'd');
        x.measure(4, 'd', 0, 99999);
        x.measure(8, 'd', 0, 99999);
        x.measure(16, 'd', 0, 99999);
        x.measure(4, 'c', 2, 99999);
        x.measure(4, 'b', 0, 99999);
        CHECK.due("23: 4 by d", x.searchMeasured(0, 4), 99999);
        CHECK.due("23: 8 by d", x.searchMeasured(0, 8), 99999);
        Butterflyworks y = new Butterflyworks();
        y.measure(2, 'd', 0, 99999);
        y.measure(2, 'b', 0, 99999);
        for (int n = 4; n <= 16; n *= 2) {
            y.measure(n, 'd', 0, 99999);
        }
        for (int a = 2; a <= 4; a *= 2) {
            y.measure(8, 'c', a, 99999);
            y.measure(4, 'c', 2, 99999);
        }
        y.measure(4, 'b', 0, 99999);
        y.measure(8, 'b', 0, 99999);
        CHECK.due("23: great ones are added up, four times 16", y.searchMeasured(4, 64), 2 * (2 * 99999 + 45 + 32) + 93 + 64);
    }

    /** "fresh, which it is in the four searches by measures that come first behind its telling" */
    private static void freshForFour() {
        for (int ahead = 0; ahead <= 6; ahead++) {
            Butterflyworks x = new Butterflyworks();
            for (int i = 0; i < ahead; i++) {
                x.searchMeasured(0, 4);
            }
            x.measure(2, 'd', 0, 1);
            for (int i = 1; i <= 6; i++) {
                CHECK.due("24: " + ahead + " ahead, before the search " + i, x.fresh(), i <= 4 ? 1 : 0);
                CHECK.due("23: " + ahead + " ahead, the search " + i, x.searchMeasured(0, 2), i <= 4 ? 1 : 2);
            }
            x.measure(2, 'd', 0, 1);
            CHECK.due("24: told anew", x.fresh(), 1);
            for (int i = 1; i <= 5; i++) {
                CHECK.due("23: told anew, the search " + i, x.searchMeasured(0, 2), i <= 4 ? 1 : 2);
            }
        }
        Butterflyworks y = new Butterflyworks();
        y.measure(2, 'd', 0, 1);
        for (int i = 0; i < 3; i++) {
            y.searchMeasured(0, 2);
        }
        y.measure(2, 'd', 0, 1);
        for (int i = 1; i <= 5; i++) {
            CHECK.due("23: told anew while fresh, the search " + i, y.searchMeasured(0, 2), i <= 4 ? 1 : 2);
        }
    }

    /** "Searches by measures, which is counted": no other call is, nor one that throws. */
    private static void whatIsCounted() {
        Butterflyworks x = new Butterflyworks();
        x.measure(2, 'd', 0, 1);
        for (int i = 0; i < 3; i++) {
            x.searchMeasured(1, 2);
        }
        for (int i = 0; i < 5; i++) {
            x.search(0, 2);
            x.set(2, 'd', 0);
            x.drop(2);
            x.ways(0, 2);
            x.fresh();
            x.isSound();
            CHECK.due("23: no such ground", Check.outcome(() -> x.searchMeasured(5, 2)), "IllegalArgumentException");
            CHECK.due("23: no such length", Check.outcome(() -> x.searchMeasured(0, 65)), "IllegalArgumentException");
            CHECK.due("23: no fit", Check.outcome(() -> x.searchMeasured(0, 3)), "UnsupportedOperationException");
            CHECK.due("22: cost out of range", Check.outcome(() -> x.measure(2, 'd', 0, -1)), "IllegalArgumentException");
            CHECK.due("24: it is fresh once more", x.fresh(), 1);
        }
        CHECK.due("23: the fourth", x.searchMeasured(0, 2), 1);
        CHECK.due("24: none is fresh", x.fresh(), 0);
        CHECK.due("23: the fifth", x.searchMeasured(0, 2), 2);
    }

    /** "At most 20 are there": the nineteenth, the twentieth, and those that come behind. */
    private static void atMostTwenty() {
        Butterflyworks x = new Butterflyworks();
        for (int n = 2; n <= 16; n++) {
            CHECK.due("22: one more", x.measure(n, 'd', 0, 1000 + n), n - 1);
        }
        CHECK.due("22: the 16th", x.measure(12, 'c', 2, 1), 16);
        CHECK.due("22: the 17th", x.measure(12, 'c', 3, 2), 17);
        CHECK.due("22: the 18th", x.measure(12, 'c', 4, 3), 18);
        CHECK.due("22: the 19th", x.measure(12, 'c', 6, 4), 19);
        CHECK.due("22: one of the 19 anew", x.measure(12, 'c', 6, 9), 19);
        CHECK.due("22: the 20th", x.measure(2, 'b', 0, 50), 20);
        CHECK.due("22: one of the 20 anew", x.measure(2, 'd', 0, 30), 20);
        CHECK.due("24: all are fresh", x.fresh(), 20);
        CHECK.due("23: as it was told anew", x.searchMeasured(0, 2), 30);
        // 3 is the one told first now, then 4, and so on; 2 by d is the last one.
        CHECK.due("22: the 21st", x.measure(64, 'b', 0, 7), 20);
        CHECK.due("23: 3 is gone", x.searchMeasured(1, 3), 33);
        CHECK.due("22: the 22nd", x.measure(64, 'c', 2, 7), 20);
        CHECK.due("22: the 23rd", x.measure(64, 'c', 4, 7), 20);
        CHECK.due("22: and 6 is told anew", x.measure(6, 'd', 0, 0), 20);
        CHECK.due("23: which leaves the others", x.searchMeasured(1, 12), 1);
        CHECK.due("42: sound", x.isSound(), true);
        CHECK.due("24: all twenty are fresh", x.fresh(), 20);
        Butterflyworks y = new Butterflyworks();
        for (int n = 2; n <= 16; n++) {
            y.measure(n, 'd', 0, 0);
        }
        for (int a = 2; a <= 32; a *= 2) {
            y.measure(64, 'c', a, 0);
        }
        CHECK.due("22: 20 of them", y.measure(2, 'd', 0, 0), 20);
        for (int i = 3; i <= 8; i++) {
            CHECK.due("22: each new one takes the first one's place", y.measure(2 * i * 2, 'c', 2, 5), 20);
        }
        // 3 to 8 went, as 2 had been told anew.
        CHECK.due("23: 2 is there", y.searchMeasured(0, 2), 0);
        y.drop(2);
        CHECK.due("23: 16 is there", y.searchMeasured(0, 16), 0);
        CHECK.due("23: 8 is not", y.searchMeasured(0, 8) > 0, true);
        CHECK.due("23: 10 is", y.searchMeasured(4, 10), 0);
        CHECK.due("24: and it is the last time", y.fresh(), 0);
        oneOfTwentyAnew();
    }

    /** "a new one takes the place of an old one for the same": no other one goes, whichever of the 20 it is. */
    private static void oneOfTwentyAnew() {
        for (int told = 0; told < 20; told++) {
            Butterflyworks x = new Butterflyworks();
            for (int i = 0; i < 20; i++) {
                measureOne(x, i, 1);
            }
            CHECK.due("22: number " + told + " anew", measureOne(x, told, 0), 20);
            CHECK.due("24: all are fresh, number " + told + " anew", x.fresh(), 20);
            CHECK.due("22: the 21st, number " + told + " anew", x.measure(64, 'b', 0, 7), 20);
        }
        for (int told = 1; told < 15; told++) {
            Butterflyworks x = new Butterflyworks();
            for (int i = 0; i < 20; i++) {
                measureOne(x, i, 1);
            }
            measureOne(x, told, 0);
            CHECK.due("23: number 0 is there, number " + told + " anew", x.searchMeasured(0, 2), 1);
            x.measure(64, 'b', 0, 7);
            CHECK.due("23: number 0 goes first, number " + told + " anew", x.searchMeasured(0, 2), 2);
        }
    }

    /** Of 20 measures, numbered from 0 on, number 0 being that of 2 by d. */
    private static int measureOne(Butterflyworks x, int number, int cost) {
        return number < 15 ? x.measure(number + 2, 'd', 0, cost) : x.measure(64, 'c', 1 << number - 14, cost);
    }

    /** A stale one is one of the 20, and the one told first goes, stale or not. */
    private static void staleOnesStay() {
        Butterflyworks x = new Butterflyworks();
        x.measure(2, 'd', 0, 0);
        for (int i = 0; i < 4; i++) {
            x.searchMeasured(0, 2);
        }
        for (int n = 3; n <= 16; n++) {
            CHECK.due("22: behind a stale one", x.measure(n, 'd', 0, 0), n - 1);
        }
        CHECK.due("24: 14 of 15", x.fresh(), 14);
        for (int a = 2; a <= 32; a *= 2) {
            x.measure(64, 'c', a, 0);
        }
        CHECK.due("24: 19 of 20", x.fresh(), 19);
        CHECK.due("22: the stale one goes", x.measure(64, 'b', 0, 0), 20);
        CHECK.due("24: 20 of 20", x.fresh(), 20);
        CHECK.due("42: sound", x.isSound(), true);
        Butterflyworks y = new Butterflyworks();
        y.measure(3, 'd', 0, 0);
        y.measure(2, 'd', 0, 0);
        for (int i = 0; i < 4; i++) {
            y.searchMeasured(0, 2);
        }
        y.measure(3, 'd', 0, 1);
        CHECK.due("22: a stale one anew is no new one", y.measure(2, 'b', 0, 1), 3);
        CHECK.due("24: two of three", y.fresh(), 2);
    }

    /** "The number of plans of a length on a ground is that of all trees that fit" */
    private static void waysOfAll() {
        for (int ground = 0; ground < 5; ground++) {
            for (int n = 1; n <= 64; n++) {
                if (fits(ground, n)) {
                    CHECK.due("25: " + n + " on " + ground, new Butterflyworks().ways(ground, n), trees(ground, n));
                }
            }
        }
        Butterflyworks x = new Butterflyworks();
        x.measure(64, 'b', 0, 0);
        x.set(64, 'c', 4);
        CHECK.due("25: plans and measures do not matter", x.ways(4, 64), 12786L);
        CHECK.due("25: a short one behind a long one", x.ways(4, 2), 2L);
        CHECK.due("25: behind another ground", x.ways(0, 16), 230L);
        CHECK.due("25: 60", x.ways(4, 60), 27118L);
    }

    private static long trees(int ground, int n) {
        if (n == 1) {
            return 1;
        }
        long all = 0;
        for (char rule : RULES.toCharArray()) {
            for (int a = 2; a < (needsA(rule) ? n : 3); a++) {
                if (fits(ground, n) && canHave(n, rule, a)) {
                    long product = 1;
                    for (int part : partLengths(n, rule, a)) {
                        product *= trees(ground, part);
                    }
                    all += product;
                }
            }
        }
        return all;
    }

    /** "by the power i times k, modulo n, it is the place itself for 0; ... for half of n; else the product" */
    private static void programs() {
        for (int n = 1; n <= 8; n++) {
            Butterflyworks x = new Butterflyworks();
            Model model = new Model();
            int count = x.program(n);
            CHECK.due("26: " + n, count, model.program(n));
            for (int i = 0; i < count; i++) {
                for (char what : "olr".toCharArray()) {
                    CHECK.due("27: " + what + " of " + i + " of " + n, x.step(n, i, what), model.step(n, i, what));
                }
                dueStep(n, i, (char) x.step(n, i, 'o'), x.step(n, i, 'l'), x.step(n, i, 'r'));
            }
            for (int k = 0; k < n; k++) {
                CHECK.due("28: " + k + " of " + n, x.out(n, k), model.out(n, k));
            }
        }
        Butterflyworks x = new Butterflyworks();
        CHECK.due("28: 1 has its row alone", x.out(1, 0), 0);
        CHECK.due("27: 2 takes away for half", x.step(2, 1, 'o'), (int) '-');
        CHECK.due("27: the place itself", x.step(2, 1, 'r'), 1);
        CHECK.due("28: the last of 8", x.out(8, 7), 8 + 84 - 1);
    }

    private static void dueStep(int n, int index, char sign, int left, int right) {
        String what = "27: step " + index + " of " + n;
        CHECK.isTrue(what + " takes numbers that are there", left >= 0 && left < n + index);
        if (sign == '*') {
            CHECK.isTrue(what + " is a place of the row times a power", left >= 1 && left < n && right >= 1 && right < n && 2 * right != n);
        } else {
            CHECK.isTrue(what + " has two numbers that are there", right >= 1 && right < n + index);
            CHECK.isTrue(what + " takes a place itself away", sign == '+' || sign == '-' && n % 2 == 0 && right < n);
        }
    }

    private static void meanOfAll() {
        Butterflyworks x = withAll(64);
        double sum = 0;
        for (int n = 1; n <= 64; n++) {
            sum += x.figure(n, 'c');
        }
        CHECK.due("41: of 64", x.meanCost(), sum / 64.0);
        Butterflyworks y = new Butterflyworks();
        CHECK.due("41: of 1 alone", y.meanCost(), 0.0);
        y.set(2, 'b', 0);
        y.set(3, 'd', 0);
        CHECK.due("41: both converted to double", y.meanCost(), (double) 35 / (double) 3);
    }

    private static void soundness() {
        CHECK.due("42: a new one", new Butterflyworks().isSound(), true);
        CHECK.due("42: with all plans, some fitting no ground", withAll(64).isSound(), true);
        Butterflyworks x = withAll(32);
        for (int i = 0; i < 3; i++) {
            x.type(i);
        }
        x.plain(1, false);
        long sum = x.checksum();
        x.isSound();
        CHECK.due("42: the result is not touched", x.checksum(), sum);
        CHECK.due("42: nor the row", x.wipe(), 3);
    }
}
