import java.util.ArrayList;
import java.util.List;
import java.util.NoSuchElementException;

/** Promises 21 to 25: searches, measures, ways. */
public final class SearchTest {
    private static final Check CHECK = new Check("SearchTest");
    private static final Class<IllegalArgumentException> ARGUMENT = IllegalArgumentException.class;
    private static final Class<UnsupportedOperationException> OPERATION = UnsupportedOperationException.class;

    public static void main(String[] args) {
        proved();
        everyTree();
        firstOfSeveral();
        searchThrows();
        measures();
        measuresThrow();
        twentyMeasures();
        fourSearches();
        ways();
        CHECK.end();
    }

    private static void proved() {
        Butterflyworks x = new Butterflyworks();
        CHECK.due("21: 2", x.search(0, 2), 2);
        CHECK.due("21: 2 by b", x.rule(2), 'b');
        CHECK.due("21: 16", x.search(0, 16), 115);
        CHECK.due("21: 5 by its ring of 4 by 2", x.search(4, 5), 3 * 11 + 20);
        CHECK.due("21: nodes of 5", x.nodes(5), 4 + 2);
        x.set(2, 'd', 0);
        CHECK.due("21: kept plans do not matter", x.search(0, 4), 11);
        CHECK.due("21: nor are others kept", x.kept(), 5);
        CHECK.due("21: a kept one stays", x.rule(2), 'd');
        CHECK.due("21: figures are proved", x.figure(4, 'c'), 11);
        CHECK.due("21: 32", x.search(3, 32), 307);
        CHECK.due("21: 48", x.search(1, 48), 601);
        CHECK.due("21: 60", x.search(4, 60), 1121);
        CHECK.due("21: 64", x.search(2, 64), 771);
        CHECK.due("21: nodes of 64", x.nodes(64), 17);
        x.drop(4);
        x.measure(4, 'd', 0, 0);
        CHECK.due("21: measures do not matter", x.search(0, 4), 11);
        CHECK.due("21: nor is it counted", x.fresh(), 1);
    }

    /** The least proved cost of all trees; each tree is written out, which the shorter lengths allow. */
    private static void everyTree() {
        int[] primes = {17, 97, 193, 257, 7681};
        for (int ground = 0; ground < 5; ground++) {
            for (int length = 2; length <= 20; length++) {
                if ((primes[ground] - 1) % length != 0) {
                    continue;
                }
                List<Integer> costs = costsOfAll(primes[ground], length);
                int least = Integer.MAX_VALUE;
                for (int cost : costs) {
                    least = Math.min(least, cost);
                }
                Butterflyworks x = new Butterflyworks();
                CHECK.due("21: " + length + " on " + ground, x.search(ground, length), least);
                CHECK.due("21: its cost is that", x.figure(length, 'c'), least);
                CHECK.due("21: it fits", x.fits(ground, length), true);
                CHECK.due("25: " + length + " on " + ground, x.ways(ground, length), (long) costs.size());
            }
        }
    }

    private static List<Integer> costsOfAll(int prime, int n) {
        List<Integer> all = new ArrayList<>();
        if ((prime - 1) % n != 0) {
            return all;
        }
        if (n == 1) {
            all.add(0);
            return all;
        }
        if (n <= 16) {
            all.add(3 * n * n + n * (n - 1));
        }
        for (int a = 2; a < n; a++) {
            if (n % a == 0) {
                int b = n / a;
                for (int rows : costsOfAll(prime, b)) {
                    for (int columns : costsOfAll(prime, a)) {
                        all.add(a * rows + b * columns + 3 * (a - 1) * (b - 1));
                        if (java.math.BigInteger.valueOf(a).gcd(java.math.BigInteger.valueOf(b)).intValue() == 1) {
                            all.add(a * rows + b * columns);
                        }
                    }
                }
            }
        }
        if (n == 3 || n == 5 || n == 7 || n == 11 || n == 13 || n == 17 || n == 19) {
            for (int part : costsOfAll(prime, n - 1)) {
                all.add(3 * part + 5 * (n - 1));
            }
        }
        if (n == 2 || n == 4 || n == 8 || n == 16) {
            for (int part : costsOfAll(prime, n / 2)) {
                all.add(2 * part + 3 * (n / 2 - 1) + n);
            }
        }
        return all;
    }

    private static void firstOfSeveral() {
        Butterflyworks x = new Butterflyworks();
        CHECK.due("21: 4 by c", x.search(0, 4), 11);
        CHECK.due("21: c before b", x.rule(4), 'c');
        x.search(1, 6);
        CHECK.due("21: g 2 before g 3", x.node(6, 0, 'a'), 2);
        CHECK.due("21: rule of 6", x.rule(6), 'g');
        x.search(0, 8);
        CHECK.due("21: c 2 before c 4", x.node(8, 0, 'a'), 2);
        x.measure(4, 'd', 0, 7);
        x.measure(4, 'c', 2, 7);
        x.measure(4, 'b', 0, 7);
        CHECK.due("23: 4", x.searchMeasured(0, 4), 7);
        CHECK.due("23: d before c", x.rule(4), 'd');
        x.measure(6, 'g', 3, 0);
        x.measure(6, 'c', 3, 0);
        CHECK.due("23: 6", x.searchMeasured(1, 6), 0);
        CHECK.due("23: c before g", x.rule(6), 'c');
        x.measure(3, 'r', 0, 33);
        CHECK.due("23: 3", x.searchMeasured(1, 3), 33);
        CHECK.due("23: d before r", x.rule(3), 'd');
    }

    private static void searchThrows() {
        Butterflyworks x = new Butterflyworks();
        CHECK.throwing("21: no ground", ARGUMENT, () -> x.search(5, 2));
        CHECK.throwing("21: ground first", ARGUMENT, () -> x.search(-1, 3));
        CHECK.throwing("21: length 1", ARGUMENT, () -> x.search(0, 1));
        CHECK.throwing("21: length 65", ARGUMENT, () -> x.search(0, 65));
        CHECK.throwing("21: 3 on 17", OPERATION, () -> x.search(0, 3));
        CHECK.throwing("23: no ground", ARGUMENT, () -> x.searchMeasured(5, 2));
        CHECK.throwing("23: ground first", ARGUMENT, () -> x.searchMeasured(-1, 3));
        CHECK.throwing("23: length 1", ARGUMENT, () -> x.searchMeasured(0, 1));
        CHECK.throwing("23: length 65", ARGUMENT, () -> x.searchMeasured(0, 65));
        CHECK.throwing("23: 3 on 17", OPERATION, () -> x.searchMeasured(0, 3));
        CHECK.due("21: nothing was kept", x.kept(), 1);
    }

    private static void measures() {
        Butterflyworks x = new Butterflyworks();
        CHECK.due("22: one", x.measure(2, 'd', 5, 1), 1);
        CHECK.due("22: the same, as d has no a", x.measure(2, 'd', 6, 0), 1);
        CHECK.due("22: another rule", x.measure(2, 'b', 0, 99999), 2);
        CHECK.due("22: c", x.measure(12, 'c', 3, 5), 3);
        CHECK.due("22: another a", x.measure(12, 'c', 4, 5), 4);
        CHECK.due("22: g", x.measure(12, 'g', 4, 5), 5);
        CHECK.due("22: a length that fits no ground", x.measure(49, 'c', 7, 5), 6);
        CHECK.due("23: 16 by measured d 2", x.searchMeasured(0, 4), 3);
        CHECK.due("23: d 2 is a part", x.node(4, 1, 'r'), (int) 'd');
        CHECK.due("23: figures stay proved", x.figure(4, 'c'), 4 * 14 + 3);
        CHECK.due("23: of the tree that was found", x.figure(4, 'd'), 5);
        CHECK.due("23: each time that it is done", x.searchMeasured(0, 8), 2 * 3 + 3 * 3);
        Butterflyworks y = new Butterflyworks();
        y.measure(2, 'b', 0, 5);
        CHECK.due("23: a measure may be more than the proved cost", y.searchMeasured(0, 4), 2 * 5 + 3 + 4);
        CHECK.due("23: 2 itself", y.searchMeasured(0, 2), 5);
        Butterflyworks z = new Butterflyworks();
        z.measure(4, 'c', 2, 99999);
        z.measure(4, 'b', 0, 12);
        CHECK.due("23: a dear one is left", z.searchMeasured(0, 4), 12);
        CHECK.due("23: b is taken", z.rule(4), 'b');
        CHECK.due("23: in a ring, three times", z.searchMeasured(4, 5), 3 * 12 + 20);
    }

    private static void measuresThrow() {
        Butterflyworks x = new Butterflyworks();
        CHECK.throwing("22: length 1", ARGUMENT, () -> x.measure(1, '1', 0, 0));
        CHECK.throwing("22: length 65", ARGUMENT, () -> x.measure(65, 'c', 5, 0));
        CHECK.throwing("22: no rule", ARGUMENT, () -> x.measure(2, 'x', 0, 0));
        CHECK.throwing("22: d 17", ARGUMENT, () -> x.measure(17, 'd', 0, 0));
        CHECK.throwing("22: g 4 with 2", ARGUMENT, () -> x.measure(4, 'g', 2, 0));
        CHECK.throwing("22: r 4", ARGUMENT, () -> x.measure(4, 'r', 0, 0));
        CHECK.throwing("22: b 3", ARGUMENT, () -> x.measure(3, 'b', 0, 0));
        CHECK.throwing("22: cost -1", ARGUMENT, () -> x.measure(2, 'd', 0, -1));
        CHECK.throwing("22: cost 100000", ARGUMENT, () -> x.measure(2, 'd', 0, 100000));
        CHECK.due("22: none was told", x.fresh(), 0);
        CHECK.due("22: cost 0", x.measure(2, 'd', 0, 0), 1);
        CHECK.due("22: cost 99999", x.measure(2, 'd', 0, 99999), 1);
    }

    private static void twentyMeasures() {
        Butterflyworks x = new Butterflyworks();
        x.measure(2, 'd', 0, 0);
        x.measure(3, 'd', 0, 1);
        for (int i = 4; i <= 16; i++) {
            CHECK.due("22: measure " + i, x.measure(i, 'd', 0, 50000), i - 1);
        }
        int[] primes = {3, 5, 7, 11, 13};
        for (int prime : primes) {
            x.measure(prime, 'r', 0, 50000);
        }
        CHECK.due("22: twenty are fresh", x.fresh(), 20);
        CHECK.due("22: told anew", x.measure(2, 'd', 0, 0), 20);
        CHECK.due("22: the 21st", x.measure(64, 'b', 0, 9), 20);
        CHECK.due("23: 2 was the last one and is there", x.searchMeasured(0, 2), 0);
        CHECK.due("23: 3 was the first one and is gone", x.searchMeasured(1, 3), 33);
        CHECK.due("22: twenty still", x.fresh(), 20);
        CHECK.due("42: sound with twenty", x.isSound(), true);
    }

    private static void fourSearches() {
        Butterflyworks x = new Butterflyworks();
        x.measure(2, 'b', 0, 1);
        for (int i = 0; i < 4; i++) {
            if (i == 2) {
                x.measure(2, 'd', 0, 9);
            }
            CHECK.throwing("23: a search that throws is not counted", OPERATION, () -> x.searchMeasured(0, 3));
            x.search(0, 2);
            CHECK.due("24: fresh ahead of search " + i, x.fresh(), i < 2 ? 1 : 2);
            CHECK.due("23: search " + i, x.searchMeasured(0, 2), 1);
        }
        CHECK.due("24: one went stale", x.fresh(), 1);
        CHECK.due("23: by the proved cost", x.searchMeasured(0, 2), 2);
        CHECK.due("24: a stale one is still there", x.measure(3, 'd', 0, 1), 3);
        x.measure(2, 'b', 0, 1);
        CHECK.due("24: told anew it is fresh", x.fresh(), 3);
        CHECK.due("23: and taken", x.searchMeasured(0, 2), 1);
        CHECK.due("24: the other one went stale", x.fresh(), 2);
    }

    private static void ways() {
        Butterflyworks x = new Butterflyworks();
        CHECK.due("25: 1", x.ways(0, 1), 1L);
        CHECK.due("25: 2", x.ways(0, 2), 2L);
        CHECK.due("25: 3", x.ways(1, 3), 3L);
        CHECK.due("25: 4", x.ways(0, 4), 7L);
        CHECK.due("25: 5", x.ways(4, 5), 8L);
        CHECK.due("25: 6", x.ways(1, 6), 1L + 4 * 6);
        CHECK.due("25: 16", x.ways(0, 16), 230L);
        CHECK.due("25: 32", x.ways(3, 32), 1654L);
        CHECK.due("25: 60", x.ways(4, 60), 27118L);
        CHECK.due("25: 64", x.ways(3, 64), 12786L);
        CHECK.due("25: 64 is the same wherever it fits", x.ways(4, 64), 12786L);
        CHECK.throwing("25: no ground", ARGUMENT, () -> x.ways(5, 2));
        CHECK.throwing("25: ground first", ARGUMENT, () -> x.ways(-1, 3));
        CHECK.throwing("25: length 0", ARGUMENT, () -> x.ways(0, 0));
        CHECK.throwing("25: length 65", ARGUMENT, () -> x.ways(0, 65));
        CHECK.throwing("25: 3 on 17", OPERATION, () -> x.ways(0, 3));
        CHECK.throwing("25: nothing is kept by it", NoSuchElementException.class, () -> x.rule(2));
    }
}
