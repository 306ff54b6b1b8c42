import java.util.List;
import java.util.NoSuchElementException;

/**
 * Each line "Throws" of the document: the calls that it refuses, just beyond each bound and far beyond it, in the
 * order of the lines if several apply; and after each of them all is as it was. What stands just within the bounds is
 * asked for in EdgesTest.
 */
public final class RefusedTest {
    private static final Check CHECK = new Check("RefusedTest");
    private static final Class<IllegalArgumentException> ARGUMENT = IllegalArgumentException.class;
    private static final Class<IllegalStateException> STATE = IllegalStateException.class;
    private static final Class<NoSuchElementException> ELEMENT = NoSuchElementException.class;
    private static final Class<UnsupportedOperationException> OPERATION = UnsupportedOperationException.class;
    private static final int LEAST = Integer.MIN_VALUE;
    private static final int GREATEST = Integer.MAX_VALUE;
    private static final int[] NO_GROUNDS = {-1, 5, LEAST, GREATEST, -4, 17, 65536};
    /** Numbers that are below 2 and above 64. */
    private static final int[] NO_LENGTHS_FROM_2 = {1, 0, -1, 65, 128, LEAST, GREATEST, 65538};
    private static final int[] NO_LENGTHS_FROM_1 = {0, -1, 65, 128, LEAST, GREATEST, 65537};

    private interface Work {
        void on(Butterflyworks x);
    }

    private interface Asked {
        Object of(Butterflyworks x);
    }

    private static final Work NEW = x -> { };

    public static void main(String[] args) {
        rows();
        grounds();
        plainAndDone();
        grids();
        rings();
        results();
        sets();
        keptPlans();
        nodesAndFigures();
        searches();
        measures();
        programs();
        fixedPoint();
        digits();
        places();
        letters();
        CHECK.end();
    }

    /** A bit of everything: what a refused call might spoil. */
    private static void rich(Butterflyworks x) {
        x.measure(2, 'b', 0, 1);
        x.measure(3, 'd', 0, 5);
        x.searchMeasured(1, 6);
        x.measure(4, 'c', 2, 7);
        x.searchMeasured(0, 4);
        x.set(3, 'r', 0);
        x.set(12, 'c', 3);
        typeAll(x, 5, -1, 70000, 3);
        x.keep();
        x.wipe();
        typeAll(x, 100, -2, 33, 4);
        x.fixed();
        x.plain(0, true);
        x.digit(false, 9);
        x.digit(false, 8);
        x.digit(true, 7);
        x.multiply();
        x.digit(true, 5);
    }

    private static void typeAll(Butterflyworks x, int... row) {
        for (int number : row) {
            x.type(number);
        }
    }

    private static void typeMany(Butterflyworks x, int count) {
        for (int i = 0; i < count; i++) {
            x.type(i + 1);
        }
    }

    /** The call throws this very exception, on an object with a bit of everything and this work ahead of it. */
    private static void refused(String what, Class<? extends RuntimeException> due, Work work, Asked asked) {
        Butterflyworks x = new Butterflyworks();
        rich(x);
        work.on(x);
        same(what, due, x, work, asked, true);
    }

    /** Likewise on a new object, with this work alone ahead of it. */
    private static void refusedNew(String what, Class<? extends RuntimeException> due, Work work, Asked asked) {
        Butterflyworks x = new Butterflyworks();
        work.on(x);
        same(what, due, x, work, asked, false);
    }

    private static void same(String what, Class<? extends RuntimeException> due, Butterflyworks x, Work work, Asked asked, boolean isRich) {
        Butterflyworks twin = new Butterflyworks();
        if (isRich) {
            rich(twin);
        }
        work.on(twin);
        CHECK.throwing(what, due, () -> asked.of(x));
        List<String> got = Probe.transcript(x);
        List<String> want = Probe.transcript(twin);
        CHECK.due(what + ": all is as it was, and as much", got.size(), want.size());
        for (int i = 0; i < want.size() && i < got.size(); i++) {
            CHECK.due(what + ": all is as it was", got.get(i), want.get(i));
        }
    }

    private static void refused(String what, Class<? extends RuntimeException> due, Asked asked) {
        refused(what, due, NEW, asked);
    }

    private static void rows() {
        refused("2: the 65th number", STATE, x -> typeMany(x, 60), x -> x.type(7));
        refused("2: the 65th number, once more", STATE, x -> {
            typeMany(x, 60);
            Check.outcome(() -> x.type(1));
        }, x -> x.type(0));
        refusedNew("2: the 65th number alone", STATE, x -> typeMany(x, 64), x -> x.type(LEAST));
    }

    private static void grounds() {
        for (int no : NO_GROUNDS) {
            refused("4: root of ground " + no, ARGUMENT, x -> x.root(no));
            refused("5: unit on ground " + no, ARGUMENT, x -> x.unit(no, 4));
            refused("5: unit on ground " + no + " ahead of no fit", ARGUMENT, x -> x.unit(no, 7));
            refused("5: unit on ground " + no + " of no length", ARGUMENT, x -> x.unit(no, 65));
        }
        for (int no : NO_LENGTHS_FROM_1) {
            refused("5: unit of length " + no, ARGUMENT, x -> x.unit(3, no));
            refused("5: unit of length " + no, ARGUMENT, x -> x.unit(0, no));
        }
        refused("5: 3 on 17", OPERATION, x -> x.unit(0, 3));
        refused("5: 32 on 17", OPERATION, x -> x.unit(0, 32));
        refused("5: 64 on 97", OPERATION, x -> x.unit(1, 64));
        refused("5: 5 on 193", OPERATION, x -> x.unit(2, 5));
        refused("5: 63 on 257", OPERATION, x -> x.unit(3, 63));
        refused("5: 7 on 7681", OPERATION, x -> x.unit(4, 7));
    }

    private static void plainAndDone() {
        for (int no : NO_GROUNDS) {
            refused("6: plain on ground " + no, ARGUMENT, x -> x.plain(no, false));
            refused("6: plain on ground " + no + ", nothing typed", ARGUMENT, Butterflyworks::wipe, x -> x.plain(no, true));
            refused("7: done on ground " + no, ARGUMENT, x -> x.done(no, false));
            refused("7: done on ground " + no + ", nothing typed", ARGUMENT, Butterflyworks::wipe, x -> x.done(no, true));
            refused("7: done on ground " + no + ", no plan", ARGUMENT, x -> x.type(5), x -> x.done(no, false));
        }
        for (boolean isBack : new boolean[] {false, true}) {
            refused("6: nothing typed", OPERATION, Butterflyworks::wipe, x -> x.plain(0, isBack));
            refusedNew("6: nothing typed, new", OPERATION, NEW, x -> x.plain(4, isBack));
            refused("6: 5 on 257", OPERATION, x -> x.type(9), x -> x.plain(3, isBack));
            refused("6: 64 on 97", OPERATION, x -> typeMany(x, 60), x -> x.plain(1, isBack));
            refused("7: nothing typed", ELEMENT, Butterflyworks::wipe, x -> x.done(0, isBack));
            refusedNew("7: nothing typed, new", ELEMENT, NEW, x -> x.done(4, isBack));
            refused("7: no plan", ELEMENT, x -> x.drop(4), x -> x.done(0, isBack));
            refused("7: no plan of 64", ELEMENT, x -> typeMany(x, 60), x -> x.done(4, isBack));
            refused("7: no plan, ahead of no fit", ELEMENT, x -> x.type(1), x -> x.done(0, isBack));
            refused("7: the plan of 5 does not fit", OPERATION, x -> {
                x.set(5, 'd', 0);
                x.type(1);
            }, x -> x.done(3, isBack));
            refused("7: the plan of 12 does not fit", OPERATION, x -> typeMany(x, 8), x -> x.done(0, isBack));
        }
    }

    private static void grids() {
        for (int no : NO_GROUNDS) {
            refused("8: grid on ground " + no, ARGUMENT, x -> x.grid(no, 2));
            refused("8: grid on ground " + no + ", nothing typed", ARGUMENT, Butterflyworks::wipe, x -> x.grid(no, 2));
            refused("8: grid on ground " + no + ", no fit", ARGUMENT, x -> x.grid(no, 3));
        }
        for (int no : NO_LENGTHS_FROM_1) {
            refused("8: grid of rows " + no, ARGUMENT, x -> x.grid(0, no));
            refused("8: grid of rows " + no + ", nothing typed", ARGUMENT, Butterflyworks::wipe, x -> x.grid(0, no));
        }
        refused("8: nothing typed", OPERATION, Butterflyworks::wipe, x -> x.grid(0, 1));
        refused("8: nothing typed, 64 rows", OPERATION, Butterflyworks::wipe, x -> x.grid(4, 64));
        refusedNew("8: nothing typed, new", OPERATION, NEW, x -> x.grid(0, 1));
        refused("8: 3 rows of 4", OPERATION, x -> x.grid(4, 3));
        refused("8: 5 rows of 4", OPERATION, x -> x.grid(4, 5));
        refused("8: 8 rows of 4", OPERATION, x -> x.grid(4, 8));
        refused("8: 64 rows of 4", OPERATION, x -> x.grid(4, 64));
        refused("8: 2 rows of 3 on 17", OPERATION, x -> typeAll(x, 1, 2), x -> x.grid(0, 2));
        refused("8: 3 rows of 2 on 17", OPERATION, x -> typeAll(x, 1, 2), x -> x.grid(0, 3));
        refused("8: 1 row of 64 on 97", OPERATION, x -> typeMany(x, 60), x -> x.grid(1, 1));
        refused("8: 64 rows of 1 on 97", OPERATION, x -> typeMany(x, 60), x -> x.grid(1, 64));
    }

    private static void rings() {
        refused("9: nothing typed", OPERATION, Butterflyworks::wipe, Butterflyworks::keep);
        refusedNew("9: nothing typed, new", OPERATION, NEW, Butterflyworks::keep);
        for (int no : NO_GROUNDS) {
            refused("10: around on ground " + no, ARGUMENT, x -> x.around(no));
            refused("10: around on ground " + no + ", nothing typed", ARGUMENT, Butterflyworks::wipe, x -> x.around(no));
            refused("10: around on ground " + no + ", another length", ARGUMENT, x -> x.type(1), x -> x.around(no));
        }
        refused("10: nothing typed", OPERATION, Butterflyworks::wipe, x -> x.around(0));
        refusedNew("10: nothing typed, no ring", OPERATION, NEW, x -> x.around(0));
        refusedNew("10: no ring", OPERATION, x -> x.type(1), x -> x.around(0));
        refused("10: the ring has one less", OPERATION, x -> x.type(1), x -> x.around(4));
        refused("10: the ring has one more", OPERATION, x -> {
            x.wipe();
            typeAll(x, 1, 2, 3);
        }, x -> x.around(4));
        refused("10: it does not fit", OPERATION, x -> {
            x.type(1);
            x.keep();
        }, x -> x.around(3));
    }

    private static void results() {
        for (int no : new int[] {-1, 4, 5, 64, LEAST, GREATEST}) {
            refused("12: place " + no + " of 4", ELEMENT, x -> x.result(no));
        }
        refusedNew("12: no result", ELEMENT, x -> x.type(1), x -> x.result(0));
        refusedNew("12: place 64 of 64", ELEMENT, x -> {
            typeMany(x, 64);
            x.plain(4, false);
        }, x -> x.result(64));
        refusedNew("40: no result", ELEMENT, x -> x.type(0), Butterflyworks::zeroShare);
    }

    private static void sets() {
        for (int no : NO_LENGTHS_FROM_2) {
            for (char rule : "dcgrb1".toCharArray()) {
                refused("13: set " + rule + " of length " + no, ARGUMENT, x -> x.set(no, rule, 2));
                refused("22: measure " + rule + " of length " + no, ARGUMENT, x -> x.measure(no, rule, 2, 1));
            }
        }
        cannotHave(17, 'd', 0);
        cannotHave(64, 'd', 0);
        for (int a : new int[] {1, 0, -1, -2, -6, 5, 12, 24, LEAST, GREATEST}) {
            cannotHave(12, 'c', a);
            cannotHave(12, 'g', a);
        }
        cannotHave(2, 'c', 2);
        cannotHave(3, 'c', 3);
        cannotHave(3, 'g', 3);
        cannotHave(4, 'g', 2);
        cannotHave(12, 'g', 2);
        cannotHave(12, 'g', 6);
        cannotHave(36, 'g', 6);
        cannotHave(61, 'c', 61);
        for (int length : new int[] {2, 4, 9, 15, 21, 25, 33, 35, 39, 49, 51, 55, 57, 63, 64}) {
            cannotHave(length, 'r', 0);
        }
        for (int length : new int[] {3, 5, 6, 7, 12, 24, 31, 33, 48, 62, 63}) {
            cannotHave(length, 'b', 0);
        }
        noPart(64, 'b', 0);
        noPart(19, 'r', 0);
        noPart(61, 'r', 0);
        noPart(34, 'c', 2);
        noPart(34, 'c', 17);
        noPart(34, 'g', 2);
        noPart(34, 'g', 17);
        noPart(64, 'c', 2);
        noPart(64, 'c', 32);
        noPart(60, 'g', 3);
        noPart(60, 'g', 20);
        refused("13: the old plan stays", OPERATION, x -> x.set(64, 'c', 8), x -> x.set(64, 'b', 0));
        refused("13: the old plan stays, a second part", OPERATION, x -> x.set(60, 'c', 5), x -> x.set(60, 'c', 20));
        refused("13: the old plan stays, no such a", ARGUMENT, x -> x.set(60, 'c', 5), x -> x.set(60, 'c', 7));
        refused("13: a part that was dropped", OPERATION, x -> {
            x.set(32, 'b', 0);
            x.drop(32);
        }, x -> x.set(64, 'b', 0));
    }

    /** Neither to set, whether its parts are there or not, nor to measure, whether the cost is in the range or not. */
    private static void cannotHave(int length, char rule, int a) {
        String what = rule + " " + a + " of " + length;
        refused("13: " + what, ARGUMENT, x -> x.set(length, rule, a));
        refused("22: " + what, ARGUMENT, x -> x.measure(length, rule, a, 1));
        refused("22: " + what + ", cost out of range", ARGUMENT, x -> x.measure(length, rule, a, -1));
    }

    private static void noPart(int length, char rule, int a) {
        refused("13: " + rule + " " + a + " of " + length + " lacks a part", OPERATION, x -> x.set(length, rule, a));
    }

    private static void keptPlans() {
        for (int no : NO_LENGTHS_FROM_2) {
            refused("14: drop " + no, ARGUMENT, x -> x.drop(no));
        }
        for (int no : NO_LENGTHS_FROM_1) {
            refused("16: rule of " + no, ARGUMENT, x -> x.rule(no));
            refused("17: nodes of " + no, ARGUMENT, x -> x.nodes(no));
            refused("18: node of " + no, ARGUMENT, x -> x.node(no, 0, 'n'));
            refused("18: node of " + no + ", no such node", ARGUMENT, x -> x.node(no, -1, 'n'));
            refused("19: figure of " + no, ARGUMENT, x -> x.figure(no, 'c'));
            refused("20: fits of " + no, ARGUMENT, x -> x.fits(0, no));
        }
        for (int none : new int[] {2, 5, 11, 16, 63, 64}) {
            refused("16: rule of " + none, ELEMENT, x -> x.rule(none));
            refused("17: nodes of " + none, ELEMENT, x -> x.nodes(none));
            refused("18: node of " + none, ELEMENT, x -> x.node(none, 0, 'n'));
            refused("19: figure of " + none, ELEMENT, x -> x.figure(none, 'd'));
            refused("20: fits of " + none, ELEMENT, x -> x.fits(4, none));
            refused("20: fits of " + none + " on no ground", ARGUMENT, x -> x.fits(5, none));
        }
        for (int no : NO_GROUNDS) {
            refused("20: fits on " + no, ARGUMENT, x -> x.fits(no, 12));
            refused("20: fits on " + no + ", no length", ARGUMENT, x -> x.fits(no, 0));
        }
        refused("16: a dropped plan", ELEMENT, x -> x.drop(12), x -> x.rule(12));
        refused("17: a dropped plan", ELEMENT, x -> x.drop(12), x -> x.nodes(12));
        refused("18: a dropped plan", ELEMENT, x -> x.drop(12), x -> x.node(12, 0, 'n'));
        refused("19: a dropped plan", ELEMENT, x -> x.drop(12), x -> x.figure(12, 'p'));
        refused("20: a dropped plan", ELEMENT, x -> x.drop(12), x -> x.fits(1, 12));
    }

    private static void nodesAndFigures() {
        for (char what : "nrad".toCharArray()) {
            for (int no : new int[] {-1, 4, 5, 12, LEAST, GREATEST}) {
                refused("18: node " + no + " of 4, " + what, ELEMENT, x -> {
                    x.drop(4);
                    x.set(3, 'r', 0);
                    x.set(12, 'c', 4);
                }, x -> x.node(12, no, what));
            }
            refused("18: node 1 of the length 1, " + what, ELEMENT, x -> x.node(1, 1, what));
            refused("18: node -1 of the length 1, " + what, ELEMENT, x -> x.node(1, -1, what));
        }
        for (char what : new char[] {'p', 's', 'c', 'N', 'o', 'm', 0, 'e', 'b', 65535}) {
            refused("18: thing " + (int) what, ARGUMENT, x -> x.node(12, 0, what));
            refused("18: thing " + (int) what + ", none kept", ARGUMENT, x -> x.node(11, 0, what));
            refused("18: thing " + (int) what + ", no node", ARGUMENT, x -> x.node(12, 99, what));
        }
        for (char what : new char[] {'n', 'r', 'a', 'C', 'P', 0, 'e', 'q', 't', 'o', 65535}) {
            refused("19: figure " + (int) what, ARGUMENT, x -> x.figure(12, what));
            refused("19: figure " + (int) what + ", none kept", ARGUMENT, x -> x.figure(11, what));
        }
    }

    private static void searches() {
        for (int no : NO_GROUNDS) {
            refused("21: search on " + no, ARGUMENT, x -> x.search(no, 4));
            refused("21: search on " + no + ", no fit", ARGUMENT, x -> x.search(no, 7));
            refused("23: search on " + no, ARGUMENT, x -> x.searchMeasured(no, 4));
            refused("23: search on " + no + ", no fit", ARGUMENT, x -> x.searchMeasured(no, 7));
            refused("25: ways on " + no, ARGUMENT, x -> x.ways(no, 4));
            refused("25: ways on " + no + ", no fit", ARGUMENT, x -> x.ways(no, 7));
        }
        for (int no : NO_LENGTHS_FROM_2) {
            refused("21: search of " + no, ARGUMENT, x -> x.search(4, no));
            refused("23: search of " + no, ARGUMENT, x -> x.searchMeasured(4, no));
        }
        for (int no : NO_LENGTHS_FROM_1) {
            refused("25: ways of " + no, ARGUMENT, x -> x.ways(4, no));
        }
        int[][] noFits = {{0, 3}, {0, 12}, {0, 32}, {0, 64}, {1, 5}, {1, 64}, {2, 5}, {2, 9}, {3, 3}, {3, 12}, {4, 7}, {4, 63}};
        for (int[] no : noFits) {
            String what = no[1] + " on " + no[0];
            refused("21: " + what, OPERATION, x -> x.search(no[0], no[1]));
            refused("23: " + what, OPERATION, x -> x.searchMeasured(no[0], no[1]));
            refused("25: " + what, OPERATION, x -> x.ways(no[0], no[1]));
        }
    }

    private static void measures() {
        for (int cost : new int[] {-1, 100000, LEAST, GREATEST}) {
            refused("22: cost " + cost, ARGUMENT, x -> x.measure(2, 'b', 0, cost));
            refused("22: cost " + cost + " of a new one", ARGUMENT, x -> x.measure(64, 'c', 8, cost));
            refused("22: cost " + cost + " if there are 20", ARGUMENT, RefusedTest::measureTwenty, x -> x.measure(64, 'c', 8, cost));
        }
    }

    private static void measureTwenty(Butterflyworks x) {
        for (int a = 2; a <= 32; a++) {
            if (64 % a == 0) {
                x.measure(64, 'c', a, 5);
            }
            if (60 % a == 0) {
                x.measure(60, 'c', a, 5);
            }
            if (48 % a == 0) {
                x.measure(48, 'c', a, 5);
            }
        }
        CHECK.due("22: twenty", x.measure(2, 'b', 0, 3), 20);
    }

    private static void programs() {
        for (int no : new int[] {0, -1, 9, 64, LEAST, GREATEST}) {
            refused("26: program of " + no, ARGUMENT, x -> x.program(no));
            refused("27: step of " + no, ARGUMENT, x -> x.step(no, 0, 'o'));
            refused("27: step of " + no + ", no step", ARGUMENT, x -> x.step(no, -1, 'l'));
            refused("28: out of " + no, ARGUMENT, x -> x.out(no, 0));
            refused("28: out of " + no + ", no place", ARGUMENT, x -> x.out(no, -1));
        }
        int[] steps = {0, 2, 10, 16, 36, 42, 78, 84};
        for (int length = 1; length <= 8; length++) {
            int n = length;
            for (char what : "olr".toCharArray()) {
                for (int no : new int[] {-1, steps[n - 1], steps[n - 1] + 1, LEAST, GREATEST}) {
                    refused("27: step " + no + " of " + n + ", " + what, ELEMENT, x -> x.step(n, no, what));
                }
            }
            for (int no : new int[] {-1, n, n + 1, LEAST, GREATEST}) {
                refused("28: out of " + n + " at " + no, ELEMENT, x -> x.out(n, no));
            }
        }
        for (char what : new char[] {'n', 'm', 'k', 'p', 'q', 's', 'O', 0, '*', 65535}) {
            refused("27: thing " + (int) what, ARGUMENT, x -> x.step(4, 0, what));
            refused("27: thing " + (int) what + ", no step", ARGUMENT, x -> x.step(4, 16, what));
        }
    }

    private static void fixedPoint() {
        for (int count = 0; count <= 64; count++) {
            int n = count;
            if (n != 4 && n != 8 && n != 16 && n != 32 && n != 64) {
                refused("29: " + n + " numbers", OPERATION, x -> {
                    x.wipe();
                    typeMany(x, n);
                }, Butterflyworks::fixed);
            }
        }
        for (int wrong : new int[] {-32769, 32768, LEAST, GREATEST}) {
            for (int place = 0; place < 8; place++) {
                int at = place;
                refused("29: " + wrong + " at " + at, OPERATION, x -> {
                    x.wipe();
                    for (int i = 0; i < 8; i++) {
                        x.type(i == at ? wrong : 100);
                    }
                }, Butterflyworks::fixed);
            }
        }
        for (boolean isImaginary : new boolean[] {false, true}) {
            for (int no : new int[] {-1, 2, 3, 32, LEAST, GREATEST}) {
                refused("30: place " + no + " of 2", ELEMENT, x -> x.fixedAt(no, isImaginary));
            }
            refusedNew("30: nothing was made", ELEMENT, x -> typeMany(x, 4), x -> x.fixedAt(0, isImaginary));
            refusedNew("30: what could not be made", ELEMENT, x -> {
                typeMany(x, 6);
                Check.outcome(x::fixed);
            }, x -> x.fixedAt(0, isImaginary));
            for (int no : new int[] {-1, 64, 65, LEAST, GREATEST}) {
                refused("31: place " + no, ARGUMENT, x -> x.table(no, isImaginary));
            }
        }
    }

    private static void digits() {
        for (boolean isSecond : new boolean[] {false, true}) {
            for (int no : new int[] {-1, 10, 48, LEAST, GREATEST}) {
                refused("32: digit " + no, ARGUMENT, x -> x.digit(isSecond, no));
                refused("32: digit " + no + " of a full row", ARGUMENT, x -> fill(x, isSecond), x -> x.digit(isSecond, no));
            }
            refused("32: the 25th digit", STATE, x -> fill(x, isSecond), x -> x.digit(isSecond, 0));
            refusedNew("34: a row is empty", OPERATION, x -> x.digit(isSecond, 3), Butterflyworks::multiply);
            refused("34: a row is empty, behind a product", OPERATION, x -> {
                x.wipeDigits();
                x.digit(isSecond, 3);
            }, Butterflyworks::multiply);
        }
        refused("34: both are wiped", OPERATION, Butterflyworks::wipeDigits, Butterflyworks::multiply);
        refusedNew("34: both are empty", OPERATION, NEW, Butterflyworks::multiply);
        for (int no : new int[] {-1, 3, 4, 48, LEAST, GREATEST}) {
            refused("35: place " + no + " of 3", ELEMENT, x -> x.product(no));
        }
        Work typed = x -> {
            x.digit(false, 2);
            x.digit(true, 3);
        };
        refusedNew("35: there was no product", ELEMENT, typed, x -> x.product(0));
        refusedNew("36: there was no product", ELEMENT, typed, Butterflyworks::joined);
    }

    private static void fill(Butterflyworks x, boolean isSecond) {
        int count = x.digit(isSecond, 1);
        while (count < 24) {
            count = x.digit(isSecond, count % 10);
        }
    }

    private static void places() {
        for (int no : new int[] {1, 0, -1, -2, 3, 5, 6, 12, 24, 48, 63, 65, 128, LEAST, GREATEST}) {
            refused("37: length " + no, ARGUMENT, x -> x.turned(0, no));
            refused("37: length " + no + ", place 1", ARGUMENT, x -> x.turned(1, no));
        }
        for (int length = 2; length <= 64; length *= 2) {
            int n = length;
            for (int no : new int[] {-1, n, n + 1, LEAST, GREATEST}) {
                refused("37: place " + no + " of " + n, ARGUMENT, x -> x.turned(no, n));
            }
        }
        for (int no : NO_LENGTHS_FROM_1) {
            refused("38: rows " + no, ARGUMENT, x -> x.cycles(no, 1));
            refused("38: columns " + no, ARGUMENT, x -> x.cycles(1, no));
            refused("38: both " + no, ARGUMENT, x -> x.cycles(no, no));
        }
        int[][] tooMany = {{2, 33}, {33, 2}, {5, 13}, {13, 5}, {8, 9}, {9, 8}, {64, 2}, {2, 64}, {64, 64}, {22, 3}, {11, 6}};
        for (int[] many : tooMany) {
            refused("38: " + many[0] + " by " + many[1], ARGUMENT, x -> x.cycles(many[0], many[1]));
        }
    }

    /** Of all signs but those that the document names, none is a rule, a thing of a node, a figure or a thing of a step. */
    private static void letters() {
        Butterflyworks x = null;
        for (int sign = 0; sign <= 65535; sign++) {
            char letter = (char) sign;
            if (sign % 60 == 0) {
                x = new Butterflyworks();
            }
            Butterflyworks works = x;
            dueLetter("13: rule " + sign, "db".indexOf(letter) < 0, () -> works.set(2, letter, 2));
            dueLetter("13: rule " + sign + " of 6", "dcg".indexOf(letter) < 0, () -> works.set(6, letter, 2));
            dueLetter("22: rule " + sign, "db".indexOf(letter) < 0, () -> works.measure(2, letter, 2, 5));
            dueLetter("18: thing " + sign, "nrad".indexOf(letter) < 0, () -> works.node(1, 0, letter));
            dueLetter("19: figure " + sign, "pscd".indexOf(letter) < 0, () -> works.figure(1, letter));
            dueLetter("27: thing " + sign, "olr".indexOf(letter) < 0, () -> works.step(2, 0, letter));
        }
    }

    private static void dueLetter(String what, boolean isRefused, Check.Call call) {
        CHECK.due(what + " is refused", "IllegalArgumentException".equals(Check.outcome(call)), isRefused);
    }
}
