import java.util.NoSuchElementException;

/** The three examples of the document, row by row. */
public final class ExamplesTest {
    private static final Check CHECK = new Check("ExamplesTest");

    public static void main(String[] args) {
        sizesAndSearch();
        measuresAndPrograms();
        fixedAndDigits();
        CHECK.end();
    }

    private static void sizesAndSearch() {
        Butterflyworks x = new Butterflyworks();
        CHECK.due("root(0)", x.root(0), 3);
        CHECK.due("unit(0, 4)", x.unit(0, 4), 13);
        for (int i = 1; i <= 4; i++) {
            CHECK.due("type", x.type(i), i);
        }
        CHECK.due("plain(0, false)", x.plain(0, false), 10);
        CHECK.due("result(1)", x.result(1), 6);
        CHECK.due("result(2)", x.result(2), 15);
        CHECK.due("result(3)", x.result(3), 7);
        CHECK.due("set(4, b)", x.set(4, 'b', 0), 35);
        CHECK.due("figure p", x.figure(4, 'p'), 9);
        CHECK.due("figure s", x.figure(4, 's'), 8);
        CHECK.due("figure d", x.figure(4, 'd'), 4);
        CHECK.due("nodes(4)", x.nodes(4), 2);
        CHECK.due("node(4, 1, n)", x.node(4, 1, 'n'), 2);
        CHECK.due("node(4, 1, r)", x.node(4, 1, 'r'), 100);
        CHECK.due("done(0, false)", x.done(0, false), 10);
        CHECK.due("result(1) of done", x.result(1), 6);
        CHECK.due("plain(0, true)", x.plain(0, true), 11);
        CHECK.due("search(0, 16)", x.search(0, 16), 115);
        CHECK.due("rule(16)", x.rule(16), 'c');
        CHECK.due("figure(16, c)", x.figure(16, 'c'), 115);
        CHECK.due("ways(0, 4)", x.ways(0, 4), 7L);
        CHECK.due("ways(0, 16)", x.ways(0, 16), 230L);
        CHECK.due("grid(0, 2)", x.grid(0, 2), 10);
        CHECK.due("keep()", x.keep(), 4);
        CHECK.due("around(0)", x.around(0), 9);
        CHECK.due("checksum()", x.checksum(), 6743619L);
        CHECK.due("isSound()", x.isSound(), true);
    }

    private static void measuresAndPrograms() {
        Butterflyworks x = new Butterflyworks();
        CHECK.due("set(3, r)", x.set(3, 'r', 0), 52);
        CHECK.due("set(6, g, 2)", x.set(6, 'g', 2), 146);
        CHECK.due("nodes(6)", x.nodes(6), 4);
        CHECK.due("node(6, 1, n)", x.node(6, 1, 'n'), 3);
        CHECK.throwing("node(6, 4, r)", NoSuchElementException.class, () -> x.node(6, 4, 'r'));
        CHECK.due("fits(0, 6)", x.fits(0, 6), false);
        CHECK.due("fits(1, 6)", x.fits(1, 6), true);
        int[] row = {5, 0, 0, 1, 0, 2};
        for (int i = 0; i < row.length; i++) {
            CHECK.due("type", x.type(row[i]), i + 1);
        }
        CHECK.due("done(1, false)", x.done(1, false), 8);
        CHECK.due("result(1) of done", x.result(1), 31);
        CHECK.due("plain(1, false)", x.plain(1, false), 8);
        CHECK.due("result(1) of plain", x.result(1), 31);
        CHECK.due("measure(6, d)", x.measure(6, 'd', 0, 3), 1);
        CHECK.due("searchMeasured(1, 12)", x.searchMeasured(1, 12), 33);
        CHECK.due("fresh()", x.fresh(), 1);
        CHECK.due("searchMeasured(1, 12) again", x.searchMeasured(1, 12), 33);
        CHECK.due("rule(12)", x.rule(12), 'c');
        CHECK.due("node(12, 1, r)", x.node(12, 1, 'r'), 100);
        CHECK.due("search(1, 12)", x.search(1, 12), 97);
        CHECK.due("kept()", x.kept(), 4);
        CHECK.due("drop(12)", x.drop(12), true);
        CHECK.due("kept() behind drop", x.kept(), 3);
        CHECK.due("program(3)", x.program(3), 10);
        CHECK.due("step(3, 0, o)", x.step(3, 0, 'o'), 43);
        CHECK.due("step(3, 0, l)", x.step(3, 0, 'l'), 0);
        CHECK.due("step(3, 0, r)", x.step(3, 0, 'r'), 1);
        CHECK.due("out(3, 0)", x.out(3, 0), 4);
        CHECK.due("out(3, 2)", x.out(3, 2), 12);
        CHECK.due("program(4)", x.program(4), 16);
        CHECK.due("program(8)", x.program(8), 84);
        CHECK.due("meanCost()", x.meanCost(), 66.0);
        CHECK.due("isSound()", x.isSound(), true);
    }

    private static void fixedAndDigits() {
        Butterflyworks x = new Butterflyworks();
        int[] row = {100, 0, 0, 100};
        for (int number : row) {
            x.type(number);
        }
        CHECK.due("fixed()", x.fixed(), 0);
        CHECK.due("fixedAt(0, false)", x.fixedAt(0, false), 100);
        CHECK.due("fixedAt(1, true)", x.fixedAt(1, true), -100);
        CHECK.due("type(8192)", x.type(8192), 5);
        x.type(0);
        x.type(0);
        CHECK.due("type(0)", x.type(0), 8);
        CHECK.due("fixed() of 4 pairs", x.fixed(), 1);
        CHECK.due("fixedAt(0, false) of 4 pairs", x.fixedAt(0, false), 4146);
        CHECK.due("fixedAt(2, true)", x.fixedAt(2, true), -50);
        CHECK.due("table(8, false)", x.table(8, false), 11585);
        CHECK.due("table(1, true)", x.table(1, true), 1606);
        CHECK.due("table(40, false)", x.table(40, false), -11585);
        CHECK.due("digit", x.digit(false, 9), 1);
        CHECK.due("digit again", x.digit(false, 9), 2);
        CHECK.due("digit of the second row", x.digit(true, 9), 1);
        CHECK.due("multiply()", x.multiply(), 3);
        CHECK.due("product(0)", x.product(0), 1);
        CHECK.due("product(1)", x.product(1), 9);
        CHECK.due("product(2)", x.product(2), 8);
        CHECK.due("joined()", x.joined(), 1);
        CHECK.due("turned(3, 8)", x.turned(3, 8), 6);
        CHECK.due("cycles(2, 3)", x.cycles(2, 3), 3);
        CHECK.due("cycles(4, 4)", x.cycles(4, 4), 10);
        CHECK.due("wipeDigits()", x.wipeDigits(), 3);
        CHECK.due("wipe()", x.wipe(), 8);
        CHECK.throwing("zeroShare()", NoSuchElementException.class, x::zeroShare);
    }
}
