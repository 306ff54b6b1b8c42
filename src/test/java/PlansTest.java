import java.util.NoSuchElementException;

/** Promises 13 to 20: plans that are set, dropped and looked at. */
public final class PlansTest {
    private static final Check CHECK = new Check("PlansTest");
    private static final Class<IllegalArgumentException> ARGUMENT = IllegalArgumentException.class;
    private static final Class<NoSuchElementException> ELEMENT = NoSuchElementException.class;
    private static final Class<UnsupportedOperationException> OPERATION = UnsupportedOperationException.class;

    public static void main(String[] args) {
        costs();
        rulesThatCannot();
        partsAsTheyAreThen();
        dropAndKept();
        looks();
        figures();
        fits();
        everyPlanMakesThePlainSum();
        CHECK.end();
    }

    private static void costs() {
        Butterflyworks x = new Butterflyworks();
        CHECK.due("13: d 2", x.set(2, 'd', 77), 14);
        CHECK.due("13: d 16", x.set(16, 'd', 0), 1008);
        x.drop(16);
        CHECK.due("13: b 32 of a missing 16", x.set(32, 'b', 0), 2 * 1008 + 3 * 15 + 32);
        x.drop(32);
        x.set(16, 'd', 0);
        CHECK.due("13: b 2", x.set(2, 'b', -1), 2);
        CHECK.due("13: b 4 of b 2", x.set(4, 'b', 0), 11);
        CHECK.due("13: b 8", x.set(8, 'b', 0), 2 * 11 + 3 * 3 + 8);
        CHECK.due("13: c 4 of b 2", x.set(4, 'c', 2), 4 * 2 + 3);
        CHECK.due("13: r 3 of b 2", x.set(3, 'r', 9), 3 * 2 + 3 * 2 + 4);
        CHECK.due("13: g 6", x.set(6, 'g', 3), 3 * 2 + 2 * 16);
        CHECK.due("13: c 6", x.set(6, 'c', 3), 3 * 2 + 2 * 16 + 3 * 2);
        CHECK.due("13: r 5", x.set(5, 'r', 0), 3 * 11 + 5 * 4);
        CHECK.due("13: r 61 of a missing 60", Check.outcome(() -> x.set(61, 'r', 0)), "UnsupportedOperationException");
        CHECK.due("13: c 34 of a missing 17", Check.outcome(() -> x.set(34, 'c', 17)), "UnsupportedOperationException");
        CHECK.due("13: r 17 of 16", x.set(17, 'r', 0), 3 * 1008 + 5 * 16);
        CHECK.due("13: c 34 of 17", x.set(34, 'c', 17), 17 * 2 + 2 * 3104 + 3 * 16);
    }

    private static void rulesThatCannot() {
        Butterflyworks x = new Butterflyworks();
        CHECK.throwing("13: length 1", ARGUMENT, () -> x.set(1, 'd', 0));
        CHECK.throwing("13: length 65", ARGUMENT, () -> x.set(65, 'c', 5));
        CHECK.throwing("13: length 128", ARGUMENT, () -> x.set(128, 'b', 0));
        CHECK.throwing("13: rule 1", ARGUMENT, () -> x.set(2, '1', 0));
        CHECK.throwing("13: rule D", ARGUMENT, () -> x.set(2, 'D', 0));
        CHECK.throwing("13: d 17", ARGUMENT, () -> x.set(17, 'd', 0));
        CHECK.throwing("13: c with 1", ARGUMENT, () -> x.set(4, 'c', 1));
        CHECK.throwing("13: c with all", ARGUMENT, () -> x.set(4, 'c', 4));
        CHECK.throwing("13: c with 0", ARGUMENT, () -> x.set(4, 'c', 0));
        CHECK.throwing("13: c with less", ARGUMENT, () -> x.set(4, 'c', -2));
        CHECK.throwing("13: c with no divisor", ARGUMENT, () -> x.set(12, 'c', 5));
        CHECK.throwing("13: g with a common divisor", ARGUMENT, () -> x.set(12, 'g', 2));
        CHECK.throwing("13: g with all", ARGUMENT, () -> x.set(12, 'g', 12));
        CHECK.throwing("13: r 2", ARGUMENT, () -> x.set(2, 'r', 0));
        CHECK.throwing("13: r 9", ARGUMENT, () -> x.set(9, 'r', 0));
        CHECK.throwing("13: b 6", ARGUMENT, () -> x.set(6, 'b', 0));
        CHECK.throwing("13: the rule comes before the parts", ARGUMENT, () -> x.set(34, 'b', 0));
        CHECK.throwing("13: b 64 without 32", OPERATION, () -> x.set(64, 'b', 0));
        CHECK.throwing("13: c 40 with 2", OPERATION, () -> x.set(40, 'c', 2));
        CHECK.throwing("13: c 40 with 20", OPERATION, () -> x.set(40, 'c', 20));
        CHECK.due("13: nothing was changed", x.kept(), 1);
        CHECK.due("13: c 40 with 4", x.set(40, 'c', 4), 4 * 390 + 10 * 60 + 81);
    }

    private static void partsAsTheyAreThen() {
        Butterflyworks x = new Butterflyworks();
        x.set(2, 'b', 0);
        x.set(4, 'b', 0);
        x.set(2, 'd', 0);
        CHECK.due("13: a kept plan stays as it was", x.node(4, 1, 'r'), (int) 'b');
        CHECK.due("13: its cost too", x.figure(4, 'c'), 11);
        x.drop(2);
        CHECK.due("13: also when a part is dropped", x.node(4, 1, 'r'), (int) 'b');
        x.set(8, 'b', 0);
        x.set(4, 'd', 0);
        CHECK.due("13: parts of parts stay", x.node(8, 2, 'r'), (int) 'b');
        CHECK.due("13: a plan in place of another", x.set(4, 'b', 0), 35);
        CHECK.due("13: that counts once", x.kept(), 3);
    }

    private static void dropAndKept() {
        Butterflyworks x = new Butterflyworks();
        CHECK.due("14: none", x.drop(2), false);
        x.set(64, 'c', 8);
        x.set(2, 'd', 0);
        CHECK.due("15: three", x.kept(), 3);
        CHECK.due("14: one", x.drop(64), true);
        CHECK.due("14: none any more", x.drop(64), false);
        CHECK.due("15: two", x.kept(), 2);
        CHECK.throwing("14: length 1", ARGUMENT, () -> x.drop(1));
        CHECK.throwing("14: length 65", ARGUMENT, () -> x.drop(65));
        CHECK.throwing("14: length -1", ARGUMENT, () -> x.drop(-1));
        CHECK.throwing("16: dropped", ELEMENT, () -> x.rule(64));
    }

    private static void looks() {
        Butterflyworks x = new Butterflyworks();
        x.set(3, 'r', 0);
        x.set(12, 'c', 4);
        CHECK.due("16: rule", x.rule(12), 'c');
        CHECK.due("17: nodes", x.nodes(12), 4);
        int[][] want = {{12, 'c', 4, 0}, {3, 'r', 0, 1}, {2, 'd', 0, 2}, {4, 'd', 0, 1}};
        for (int i = 0; i < want.length; i++) {
            for (int j = 0; j < 4; j++) {
                CHECK.due("18: node " + i + " " + j, x.node(12, i, "nrad".charAt(j)), want[i][j]);
            }
        }
        CHECK.due("18: of the length 1", x.node(1, 0, 'r'), (int) '1');
        CHECK.throwing("18: behind the last", ELEMENT, () -> x.node(12, 4, 'n'));
        CHECK.throwing("18: before the first", ELEMENT, () -> x.node(12, -1, 'n'));
        CHECK.throwing("18: greatest", ELEMENT, () -> x.node(12, Integer.MAX_VALUE, 'n'));
        CHECK.throwing("18: least", ELEMENT, () -> x.node(12, Integer.MIN_VALUE, 'n'));
        CHECK.throwing("18: none kept", ELEMENT, () -> x.node(4, 0, 'n'));
        CHECK.throwing("18: the thing first", ARGUMENT, () -> x.node(4, 99, 'x'));
        CHECK.throwing("18: length 0", ARGUMENT, () -> x.node(0, 0, 'n'));
        CHECK.throwing("18: length 65", ARGUMENT, () -> x.node(65, 0, 'n'));
        CHECK.throwing("16: length 0", ARGUMENT, () -> x.rule(0));
        CHECK.throwing("16: length 65", ARGUMENT, () -> x.rule(65));
        CHECK.throwing("16: none kept", ELEMENT, () -> x.rule(64));
        CHECK.throwing("17: length 0", ARGUMENT, () -> x.nodes(0));
        CHECK.throwing("17: length 65", ARGUMENT, () -> x.nodes(65));
        CHECK.throwing("17: none kept", ELEMENT, () -> x.nodes(2));
    }

    private static void figures() {
        Butterflyworks x = new Butterflyworks();
        dueFigures(x, 1, 0, 0, 0);
        x.set(5, 'd', 0);
        dueFigures(x, 5, 25, 20, 5);
        x.set(15, 'g', 3);
        dueFigures(x, 15, 3 * 25 + 5 * 9, 3 * 20 + 5 * 6, 8);
        x.set(15, 'c', 3);
        dueFigures(x, 15, 3 * 25 + 5 * 9 + 8, 3 * 20 + 5 * 6, 9);
        x.set(5, 'r', 0);
        dueFigures(x, 5, 3 * 16 + 4, 3 * 12 + 8, 10);
        x.set(16, 'b', 0);
        dueFigures(x, 16, 2 * 64 + 7, 2 * 56 + 16, 10);
        x.set(32, 'c', 2);
        dueFigures(x, 32, 2 * 135 + 16 * 4 + 15, 2 * 128 + 16 * 2, 10 + 2 + 1);
        CHECK.throwing("19: no figure", ARGUMENT, () -> x.figure(5, 'n'));
        CHECK.throwing("19: the figure first", ARGUMENT, () -> x.figure(64, 'n'));
        CHECK.throwing("19: length 0", ARGUMENT, () -> x.figure(0, 'p'));
        CHECK.throwing("19: length 65", ARGUMENT, () -> x.figure(65, 'p'));
        CHECK.throwing("19: none kept", ELEMENT, () -> x.figure(64, 'p'));
    }

    private static void dueFigures(Butterflyworks x, int length, int products, int sums, int depth) {
        CHECK.due("19: products of " + length, x.figure(length, 'p'), products);
        CHECK.due("19: sums of " + length, x.figure(length, 's'), sums);
        CHECK.due("19: cost of " + length, x.figure(length, 'c'), 3 * products + sums);
        CHECK.due("19: depth of " + length, x.figure(length, 'd'), depth);
    }

    private static void fits() {
        Butterflyworks x = new Butterflyworks();
        x.set(16, 'd', 0);
        x.set(17, 'r', 0);
        x.set(5, 'r', 0);
        x.set(15, 'g', 5);
        x.set(9, 'c', 3);
        for (int ground = 0; ground < 5; ground++) {
            CHECK.due("20: 16 on " + ground, x.fits(ground, 16), true);
            CHECK.due("20: 17 on " + ground, x.fits(ground, 17), false);
            CHECK.due("20: 5 on " + ground, x.fits(ground, 5), ground == 4);
            CHECK.due("20: 15 on " + ground, x.fits(ground, 15), ground == 4);
            CHECK.due("20: 9 on " + ground, x.fits(ground, 9), false);
            CHECK.due("20: 1 on " + ground, x.fits(ground, 1), true);
        }
        CHECK.throwing("20: no ground", ARGUMENT, () -> x.fits(5, 2));
        CHECK.throwing("20: ground -1", ARGUMENT, () -> x.fits(-1, 2));
        CHECK.throwing("20: length 0", ARGUMENT, () -> x.fits(0, 0));
        CHECK.throwing("20: length 65", ARGUMENT, () -> x.fits(0, 65));
        CHECK.throwing("20: none kept", ELEMENT, () -> x.fits(0, 2));
    }

    /** Each rule and a on each ground, the parts set in several ways: promise 7, and what 'Terms' says of plans. */
    private static void everyPlanMakesThePlainSum() {
        int[] primes = {17, 97, 193, 257, 7681};
        for (int ground = 0; ground < 5; ground++) {
            for (int length = 2; length <= 64; length++) {
                if ((primes[ground] - 1) % length != 0) {
                    continue;
                }
                for (char rule : "dcgrb".toCharArray()) {
                    for (int a = 0; a < length; a++) {
                        tryPlan(ground, length, rule, a, "bdcr");
                        tryPlan(ground, length, rule, a, "rgcd");
                    }
                }
            }
        }
    }

    private static void tryPlan(int ground, int length, char rule, int a, String partRules) {
        boolean needsA = rule == 'c' || rule == 'g';
        if (!needsA && a > 0) {
            return;
        }
        Butterflyworks x = new Butterflyworks();
        for (int part = 2; part < length; part++) {
            setPart(x, part, partRules);
        }
        if (Check.outcome(() -> x.set(length, rule, a)) instanceof String) {
            return;
        }
        for (int i = 0; i < length; i++) {
            x.type(i * i * 31 - 700 * i + 5);
        }
        String what = "7: " + rule + " " + a + " of " + length + " on " + ground;
        x.done(ground, false);
        long forth = x.checksum();
        x.done(ground, true);
        long back = x.checksum();
        x.plain(ground, false);
        CHECK.due(what, forth, x.checksum());
        x.plain(ground, true);
        CHECK.due(what + " back", back, x.checksum());
        CHECK.due(what + " is sound", x.isSound(), true);
    }

    private static void setPart(Butterflyworks x, int part, String rules) {
        for (char rule : rules.toCharArray()) {
            for (int a = 2; a <= 5; a++) {
                int told = a;
                if (Check.outcome(() -> x.set(part, rule, told)) instanceof Integer) {
                    return;
                }
            }
        }
    }
}
