import java.util.NoSuchElementException;

/** Promises 29 to 31: fixed point and its table. */
public final class FixedTest {
    private static final Check CHECK = new Check("FixedTest");
    private static final Class<IllegalArgumentException> ARGUMENT = IllegalArgumentException.class;
    private static final Class<NoSuchElementException> ELEMENT = NoSuchElementException.class;
    private static final Class<UnsupportedOperationException> OPERATION = UnsupportedOperationException.class;

    public static void main(String[] args) {
        table();
        lengths();
        range();
        scales();
        roundings();
        halvesOfTurns();
        nearTheRealSum();
        places();
        CHECK.end();
    }

    private static Butterflyworks typed(int... row) {
        Butterflyworks x = new Butterflyworks();
        for (int number : row) {
            x.type(number);
        }
        return x;
    }

    private static void table() {
        Butterflyworks x = new Butterflyworks();
        int[] cosines = {16384, 16305, 16069, 15678, 15137, 14449, 13623, 12665, 11585, 10394, 9102, 7723, 6270, 4756, 3197, 1606, 0};
        for (int k = 0; k < 64; k++) {
            double turn = 2 * Math.PI * k / 64;
            CHECK.isTrue("31: cosine " + k, Math.abs(x.table(k, false) - 16384 * Math.cos(turn)) < 1.5);
            CHECK.isTrue("31: sine " + k, Math.abs(x.table(k, true) - 16384 * Math.sin(turn)) < 1.5);
            CHECK.due("31: half a turn on, cosine " + k, x.table((k + 32) % 64, false), -x.table(k, false));
            CHECK.due("31: half a turn on, sine " + k, x.table((k + 32) % 64, true), -x.table(k, true));
            CHECK.due("31: the model's cosine " + k, x.table(k, false), new Model().table(k, false));
            CHECK.due("31: the model's sine " + k, x.table(k, true), new Model().table(k, true));
        }
        for (int k = 0; k <= 16; k++) {
            CHECK.isTrue("31: written cosine " + k, Math.abs(x.table(k, false) - cosines[k]) <= 1);
        }
        CHECK.due("31: a quarter", x.table(16, true), 16384);
        CHECK.due("31: half a turn", x.table(32, false), -16384);
        CHECK.throwing("31: place -1", ARGUMENT, () -> x.table(-1, false));
        CHECK.throwing("31: place 64", ARGUMENT, () -> x.table(64, true));
    }

    private static void lengths() {
        Butterflyworks x = new Butterflyworks();
        for (int i = 0; i <= 64; i++) {
            boolean isRight = i == 4 || i == 8 || i == 16 || i == 32 || i == 64;
            CHECK.due("29: " + i + " numbers", Check.outcome(x::fixed), isRight ? (Object) 0 : "UnsupportedOperationException");
            if (i < 64) {
                x.type(1);
            }
        }
        CHECK.due("29: the result is not touched", x.results(), 0);
        CHECK.due("30: 32 pairs", x.fixedAt(0, false), 32);
        CHECK.due("30: the last one", x.fixedAt(31, true), 0);
        CHECK.throwing("30: place 32", ELEMENT, () -> x.fixedAt(32, false));
    }

    private static void range() {
        Butterflyworks x = typed(-32768, 32767, 32767, -32768);
        CHECK.due("29: the edges", x.fixed(), 1);
        CHECK.due("30: their sum", x.fixedAt(0, false), -16384 + 16384);
        CHECK.due("30: their difference", x.fixedAt(1, false), -32768);
        CHECK.due("30: imaginary", x.fixedAt(1, true), 16384 + 16384);
        CHECK.throwing("29: 32768", OPERATION, () -> typed(0, 0, 32768, 0).fixed());
        CHECK.throwing("29: -32769", OPERATION, () -> typed(0, 0, 0, -32769).fixed());
        Butterflyworks y = typed(1, 2, 3, 4);
        y.fixed();
        y.wipe();
        for (int i = 0; i < 8; i++) {
            y.type(i == 7 ? 40000 : 9);
        }
        CHECK.throwing("29: out of range", OPERATION, y::fixed);
        CHECK.due("30: what was made stays", y.fixedAt(1, true), -2);
        CHECK.throwing("30: so does its length", ELEMENT, () -> y.fixedAt(2, true));
    }

    private static void scales() {
        CHECK.due("29: 8191 is not above", typed(8191, 0, -8191, 0).fixed(), 0);
        CHECK.due("29: nor is it in an imaginary part", typed(0, 8191, 0, -8191).fixed(), 0);
        CHECK.due("29: 8192 is", typed(8192, 0, 0, 0).fixed(), 1);
        CHECK.due("29: -8192 is", typed(0, 0, 0, -8192).fixed(), 1);
        Butterflyworks x = new Butterflyworks();
        for (int i = 0; i < 64; i++) {
            x.type(i % 2 == 0 ? 32767 : 0);
        }
        CHECK.due("29: each layer halves", x.fixed(), 5);
        CHECK.due("30: the sum, halved", x.fixedAt(0, false), 32768);
        CHECK.due("30: nothing else", x.fixedAt(9, false), 0);
        Butterflyworks y = typed(5000, 0, 5000, 0, 5000, 0, 5000, 0);
        CHECK.due("29: the second layer alone", y.fixed(), 1);
        CHECK.due("30: halved once", y.fixedAt(0, false), 10000);
    }

    private static void roundings() {
        Butterflyworks x = typed(8193, -8193, 8195, -1);
        x.fixed();
        CHECK.due("30: halves go up", x.fixedAt(0, false), 4097 + 4098);
        CHECK.due("30: below 0 too", x.fixedAt(0, true), -4096);
        CHECK.due("30: p less t", x.fixedAt(1, false), 4097 - 4098);
        CHECK.due("30: p less t, imaginary", x.fixedAt(1, true), -4096);
        Butterflyworks y = typed(0, 0, 0, 0, 0, 0, 7, -5);
        y.fixed();
        // The pair at 3 is q at 1 of the second layer, less itself at first: t is (7, -5) less, a quarter of a turn on.
        CHECK.due("30: a quarter of a turn", y.fixedAt(1, false), 5);
        CHECK.due("30: a quarter of a turn, imaginary", y.fixedAt(1, true), 7);
        CHECK.due("30: the other side", y.fixedAt(3, false), -5);
        CHECK.due("30: the other side, imaginary", y.fixedAt(3, true), -7);
    }

    /** An eighth of a turn of 4096 twice is 5792 and a half. */
    private static void halvesOfTurns() {
        Butterflyworks x = typed(0, 0, 4096, 4096, 0, 0, 0, 0, 0, 0, 0, 0, 0, 0, 0, 0);
        x.fixed();
        CHECK.due("30: a half goes up", x.fixedAt(1, false), 5793);
        CHECK.due("30: nothing", x.fixedAt(1, true), 0);
        CHECK.due("30: p less it", x.fixedAt(5, false), -5793);
        CHECK.due("30: a half below 0 goes up", x.fixedAt(3, true), -5792);
        CHECK.due("30: p less it, imaginary", x.fixedAt(7, true), 5792);
        Butterflyworks y = typed(0, 0, -4096, -4096, 0, 0, 0, 0, 0, 0, 0, 0, 0, 0, 0, 0);
        y.fixed();
        CHECK.due("30: below 0, real", y.fixedAt(1, false), -5792);
        CHECK.due("30: below 0, the other side", y.fixedAt(5, false), 5792);
    }

    private static void nearTheRealSum() {
        int[] row = new int[64];
        for (int i = 0; i < 64; i++) {
            row[i] = i * 37 % 101 - 50;
        }
        Butterflyworks x = typed(row);
        CHECK.due("29: small numbers are not halved", x.fixed(), 0);
        for (int k = 0; k < 32; k++) {
            double real = 0;
            double imaginary = 0;
            for (int i = 0; i < 32; i++) {
                double turn = 2 * Math.PI * i * k / 32;
                real += row[2 * i] * Math.cos(turn) + row[2 * i + 1] * Math.sin(turn);
                imaginary += row[2 * i + 1] * Math.cos(turn) - row[2 * i] * Math.sin(turn);
            }
            CHECK.isTrue("30: real at " + k, Math.abs(x.fixedAt(k, false) - real) < 8);
            CHECK.isTrue("30: imaginary at " + k, Math.abs(x.fixedAt(k, true) - imaginary) < 8);
        }
    }

    private static void places() {
        CHECK.throwing("30: nothing was made", ELEMENT, () -> new Butterflyworks().fixedAt(0, false));
        CHECK.throwing("30: nothing was made, imaginary", ELEMENT, () -> new Butterflyworks().fixedAt(0, true));
        Butterflyworks x = typed(1, 2, 3, 4);
        x.fixed();
        CHECK.throwing("30: place -1", ELEMENT, () -> x.fixedAt(-1, false));
        CHECK.throwing("30: place 2", ELEMENT, () -> x.fixedAt(2, true));
        x.wipe();
        CHECK.due("30: wipe leaves it", x.fixedAt(0, true), 6);
    }
}
