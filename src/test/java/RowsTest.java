import java.util.NoSuchElementException;

/** Promises 1 to 12: a new object, rows, grounds, and what is made of rows. */
public final class RowsTest {
    private static final Check CHECK = new Check("RowsTest");
    private static final Class<IllegalArgumentException> ARGUMENT = IllegalArgumentException.class;
    private static final Class<NoSuchElementException> ELEMENT = NoSuchElementException.class;
    private static final Class<UnsupportedOperationException> OPERATION = UnsupportedOperationException.class;
    private static final int[] PRIMES = {17, 97, 193, 257, 7681};

    public static void main(String[] args) {
        newObject();
        typing();
        roots();
        units();
        plain();
        done();
        grid();
        ring();
        results();
        CHECK.end();
    }

    private static Butterflyworks typed(int... row) {
        Butterflyworks x = new Butterflyworks();
        for (int number : row) {
            x.type(number);
        }
        return x;
    }

    private static void dueResult(String what, Butterflyworks x, int... want) {
        CHECK.due(what + ": length", x.results(), want.length);
        for (int i = 0; i < want.length; i++) {
            CHECK.due(what + ": place " + i, x.result(i), want[i]);
        }
    }

    private static void newObject() {
        Butterflyworks x = new Butterflyworks();
        CHECK.due("1: kept", x.kept(), 1);
        CHECK.due("1: rule", x.rule(1), '1');
        CHECK.due("1: nodes", x.nodes(1), 1);
        CHECK.due("1: results", x.results(), 0);
        CHECK.due("1: wipe", x.wipe(), 0);
        CHECK.due("1: wipeDigits", x.wipeDigits(), 0);
        CHECK.due("1: fresh", x.fresh(), 0);
        CHECK.due("1: checksum", x.checksum(), 7L);
        CHECK.due("1: meanCost", x.meanCost(), 0.0);
        CHECK.due("1: isSound", x.isSound(), true);
        for (int length = 2; length <= 64; length++) {
            int n = length;
            CHECK.throwing("1: rule of " + n, ELEMENT, () -> x.rule(n));
        }
    }

    private static void typing() {
        Butterflyworks x = new Butterflyworks();
        for (int i = 1; i <= 64; i++) {
            CHECK.due("2: type", x.type(i % 2 == 0 ? Integer.MIN_VALUE : Integer.MAX_VALUE), i);
        }
        CHECK.throwing("2: one too many", IllegalStateException.class, () -> x.type(1));
        CHECK.due("3: wipe", x.wipe(), 64);
        CHECK.due("3: wipe again", x.wipe(), 0);
        CHECK.due("2: type behind wipe", x.type(5), 1);
        CHECK.due("3: wipe of one", x.wipe(), 1);
        CHECK.throwing("3: nothing is typed then", OPERATION, () -> x.plain(0, false));
    }

    private static void roots() {
        Butterflyworks x = new Butterflyworks();
        int[] want = {3, 5, 5, 3, 17};
        for (int ground = 0; ground < 5; ground++) {
            CHECK.due("4: root of " + ground, x.root(ground), want[ground]);
        }
        CHECK.throwing("4: ground -1", ARGUMENT, () -> x.root(-1));
        CHECK.throwing("4: ground 5", ARGUMENT, () -> x.root(5));
    }

    private static void units() {
        Butterflyworks x = new Butterflyworks();
        for (int ground = 0; ground < 5; ground++) {
            for (int length = 1; length <= 64; length++) {
                int g = ground;
                int n = length;
                if ((PRIMES[g] - 1) % n != 0) {
                    CHECK.throwing("5: unit " + g + " " + n, OPERATION, () -> x.unit(g, n));
                } else {
                    CHECK.due("5: order of the unit " + g + " " + n, order(x.unit(g, n), PRIMES[g]), n);
                }
            }
        }
        CHECK.due("5: unit 1, 3", x.unit(1, 3), 35);
        CHECK.due("5: unit 3, 64", x.unit(3, 64), 81);
        CHECK.due("5: unit 4, 1", x.unit(4, 1), 1);
        CHECK.throwing("5: no ground", ARGUMENT, () -> x.unit(5, 4));
        CHECK.throwing("5: length 0", ARGUMENT, () -> x.unit(0, 0));
        CHECK.throwing("5: length 65", ARGUMENT, () -> x.unit(0, 65));
        CHECK.throwing("5: length 128 would divide", ARGUMENT, () -> x.unit(3, 128));
        CHECK.throwing("5: the ground first", ARGUMENT, () -> x.unit(-1, 3));
    }

    private static int order(int unit, int prime) {
        int order = 1;
        for (int power = unit; power != 1 && order < prime; power = power * unit % prime) {
            order++;
        }
        return order;
    }

    private static void plain() {
        Butterflyworks x = typed(1, 2, 3, 4);
        CHECK.due("6: plain", x.plain(0, false), 10);
        dueResult("6: plain", x, 10, 6, 15, 7);
        CHECK.due("6: back", x.plain(0, true), 11);
        Butterflyworks y = typed(10, 6, 15, 7);
        CHECK.due("6: back of it", y.plain(0, true), 1);
        dueResult("6: back of it", y, 1, 2, 3, 4);
        Butterflyworks one = typed(-1);
        CHECK.due("6: a single number", one.plain(4, true), 7680);
        Butterflyworks far = typed(Integer.MIN_VALUE, Integer.MAX_VALUE);
        CHECK.due("6: least and greatest", far.plain(0, false), 16);
        dueResult("6: least and greatest", far, 16, 0);
        CHECK.throwing("6: no ground", ARGUMENT, () -> x.plain(5, false));
        CHECK.throwing("6: ground first", ARGUMENT, () -> new Butterflyworks().plain(-1, false));
        CHECK.throwing("6: nothing typed", OPERATION, () -> new Butterflyworks().plain(0, false));
        CHECK.throwing("6: 3 on 17", OPERATION, () -> typed(1, 2, 3).plain(0, false));
        CHECK.throwing("6: nothing changes", OPERATION, () -> {
            x.type(1);
            return x.plain(0, false);
        });
        CHECK.due("6: the result stays", x.results(), 4);
    }

    private static void done() {
        Butterflyworks x = typed(1, 2, 3, 4);
        CHECK.throwing("7: no plan", ELEMENT, () -> x.done(0, false));
        CHECK.throwing("7: ground first", ARGUMENT, () -> x.done(5, false));
        x.set(4, 'c', 2);
        CHECK.due("7: done", x.done(0, false), 10);
        dueResult("7: done", x, 10, 6, 15, 7);
        CHECK.due("7: back", x.done(0, true), 11);
        CHECK.throwing("7: nothing typed", ELEMENT, () -> new Butterflyworks().done(0, false));
        CHECK.throwing("7: ground before nothing typed", ARGUMENT, () -> new Butterflyworks().done(-1, false));
        CHECK.due("7: a single number", typed(20).done(0, true), 3);
        Butterflyworks y = typed(1, 2, 3);
        y.set(3, 'd', 0);
        CHECK.throwing("7: the plan does not fit", OPERATION, () -> y.done(0, false));
        CHECK.due("7: it fits elsewhere", y.done(1, false), 6);
        Butterflyworks ring = typed(7, -8, 9, 10, 11);
        ring.set(5, 'r', 0);
        ring.plain(4, false);
        int[] want = new int[5];
        for (int i = 0; i < 5; i++) {
            want[i] = ring.result(i);
        }
        ring.plain(4, true);
        ring.done(4, false);
        dueResult("7: a ring", ring, want);
    }

    private static void grid() {
        Butterflyworks x = typed(1, 2, 3, 4);
        CHECK.due("8: grid", x.grid(0, 2), 10);
        dueResult("8: grid", x, 10, 15, 13, 0);
        CHECK.due("8: one row", x.grid(0, 1), 10);
        dueResult("8: one row", x, 10, 6, 15, 7);
        x.grid(0, 4);
        dueResult("8: one column", x, 10, 6, 15, 7);
        Butterflyworks y = typed(1, 2, 3, 4, 5, 6);
        y.grid(1, 2);
        dueResult("8: 2 rows of 3", y, 21, (60 + 60) % 97, (34 + 34) % 97, 97 - 9, 0, 0);
        CHECK.throwing("8: no ground", ARGUMENT, () -> x.grid(5, 2));
        CHECK.throwing("8: no rows", ARGUMENT, () -> x.grid(0, 0));
        CHECK.throwing("8: 65 rows", ARGUMENT, () -> x.grid(0, 65));
        CHECK.throwing("8: 65 rows first", ARGUMENT, () -> new Butterflyworks().grid(0, 65));
        CHECK.throwing("8: nothing typed", OPERATION, () -> new Butterflyworks().grid(0, 1));
        CHECK.throwing("8: 3 rows of 4", OPERATION, () -> x.grid(1, 3));
        CHECK.throwing("8: more rows than numbers", OPERATION, () -> x.grid(0, 8));
        CHECK.throwing("8: columns do not fit", OPERATION, () -> y.grid(0, 2));
        CHECK.throwing("8: rows do not fit", OPERATION, () -> y.grid(0, 3));
        Butterflyworks wide = new Butterflyworks();
        for (int i = 0; i < 32; i++) {
            wide.type(1);
        }
        CHECK.due("8: only rows and columns need fit", wide.grid(0, 4), 15);
        for (int i = 32; i < 64; i++) {
            wide.type(i);
        }
        wide.plain(3, false);
        long sum = wide.checksum();
        wide.plain(3, true);
        wide.grid(3, 64);
        CHECK.due("8: 64 rows are a plain sum", wide.checksum(), sum);
        wide.grid(3, 1);
        CHECK.due("8: so is a row of 64", wide.checksum(), sum);
    }

    private static void ring() {
        Butterflyworks x = typed(1, 2, 3, 4);
        CHECK.throwing("9: nothing typed", OPERATION, () -> new Butterflyworks().keep());
        CHECK.throwing("10: no ring", OPERATION, () -> x.around(0));
        CHECK.due("9: keep", x.keep(), 4);
        CHECK.due("10: around", x.around(0), 9);
        dueResult("10: around", x, 26 % 17, 28 % 17, 26 % 17, 20 % 17);
        x.wipe();
        x.type(0);
        x.type(1);
        x.type(0);
        CHECK.throwing("10: another length", OPERATION, () -> x.around(0));
        CHECK.throwing("10: no ground", ARGUMENT, () -> x.around(5));
        CHECK.throwing("10: ground first", ARGUMENT, () -> new Butterflyworks().around(-1));
        CHECK.throwing("10: nothing typed", OPERATION, () -> new Butterflyworks().around(0));
        x.type(0);
        CHECK.due("10: one place on", x.around(3), 4);
        dueResult("10: one place on", x, 4, 1, 2, 3);
        CHECK.due("9: another ring", x.keep(), 4);
        x.around(3);
        dueResult("10: two places on", x, 0, 0, 1, 0);
        Butterflyworks three = typed(-1, 0, 0);
        three.keep();
        CHECK.throwing("10: 3 on 17", OPERATION, () -> three.around(0));
        CHECK.due("10: less 1 times less 1", three.around(1), 1);
    }

    private static void results() {
        Butterflyworks x = typed(1, 2, 3, 4);
        CHECK.throwing("12: no result", ELEMENT, () -> x.result(0));
        CHECK.due("11: none", x.results(), 0);
        x.plain(0, false);
        CHECK.due("11: four", x.results(), 4);
        x.wipe();
        CHECK.due("11: wipe leaves the result", x.results(), 4);
        x.type(18);
        x.plain(0, false);
        CHECK.due("11: one", x.results(), 1);
        CHECK.due("12: reduced", x.result(0), 1);
        CHECK.throwing("12: place 1", ELEMENT, () -> x.result(1));
        CHECK.throwing("12: place -1", ELEMENT, () -> x.result(-1));
    }
}
