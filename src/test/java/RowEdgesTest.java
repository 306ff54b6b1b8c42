import java.math.BigInteger;
import java.util.ArrayList;
import java.util.Arrays;
import java.util.List;
import java.util.NoSuchElementException;

/**
 * The edges that the document names for grounds, rows, rings, grids, fixed point, the table, digits and places: what
 * stands just within each bound, what goes around, what is empty and what is full. What is refused is in RefusedTest.
 */
public final class RowEdgesTest {
    private static final Check CHECK = new Check("RowEdgesTest");
    private static final int[] PRIMES = {17, 97, 193, 257, 7681};
    private static final int LEAST = Integer.MIN_VALUE;
    private static final int GREATEST = Integer.MAX_VALUE;

    private interface Work {
        Object on(Butterflyworks x);
    }

    public static void main(String[] args) {
        roots();
        units();
        fullRow();
        rowStays();
        takenModulo();
        plainSums();
        resultStays();
        grids();
        rings();
        fixedSizes();
        fixedRanges();
        fixedHalving();
        fixedRounding();
        fixedStays();
        tableQuarters();
        digitRows();
        joinedGrounds();
        productsCarried();
        productStays();
        turnedPlaces();
        cycles();
        sumsOverResults();
        CHECK.end();
    }

    private static Butterflyworks typed(int... row) {
        Butterflyworks x = new Butterflyworks();
        for (int number : row) {
            x.type(number);
        }
        return x;
    }

    private static int[] someRow(int length) {
        int[] row = new int[length];
        for (int i = 0; i < length; i++) {
            row[i] = i % 7 == 3 ? LEAST + i : i * i * 977 - 5000 * i + 11;
        }
        return row;
    }

    private static boolean fits(int ground, int length) {
        return (PRIMES[ground] - 1) % length == 0;
    }

    private static int[] resultOf(Butterflyworks x) {
        int[] row = new int[x.results()];
        for (int i = 0; i < row.length; i++) {
            row[i] = x.result(i);
        }
        return row;
    }

    private static void dueRow(String what, int[] got, int... want) {
        CHECK.due(what, Arrays.toString(got), Arrays.toString(want));
    }

    private static int power(int ground, long base, long exponent) {
        return BigInteger.valueOf(base).modPow(BigInteger.valueOf(exponent), BigInteger.valueOf(PRIMES[ground])).intValue();
    }

    /** "the least number, from 2 on, whose powers are all numbers from 1 to the prime less 1" */
    private static void roots() {
        for (int ground = 0; ground < 5; ground++) {
            int root = new Butterflyworks().root(ground);
            for (int number = 2; number <= root; number++) {
                CHECK.due("4: " + number + " on " + ground, order(number, PRIMES[ground]) == PRIMES[ground] - 1, number == root);
            }
        }
    }

    private static int order(int number, int prime) {
        int order = 1;
        for (long power = number; power != 1; power = power * number % prime) {
            order++;
        }
        return order;
    }

    /** "A length, 1 to 64, fits a ground if it divides the prime less 1" */
    private static void units() {
        Butterflyworks x = new Butterflyworks();
        for (int ground = 0; ground < 5; ground++) {
            for (int length = 1; length <= 64; length++) {
                int g = ground;
                int n = length;
                Object want = fits(g, n) ? (Object) power(g, x.root(g), (PRIMES[g] - 1) / n) : "UnsupportedOperationException";
                CHECK.due("5: unit of " + n + " on " + g, Check.outcome(() -> new Butterflyworks().unit(g, n)), want);
            }
            CHECK.due("5: the length 1 on " + ground, x.unit(ground, 1), 1);
            CHECK.due("5: the length 2 on " + ground, x.unit(ground, 2), PRIMES[ground] - 1);
            CHECK.due("5: the length 16 on " + ground, order(x.unit(ground, 16), PRIMES[ground]), 16);
        }
        CHECK.due("5: on 17 the length 16 has the root", x.unit(0, 16), x.root(0));
    }

    /** "A row of at most 64 ints is typed", ints of all sizes */
    private static void fullRow() {
        Butterflyworks x = new Butterflyworks();
        int[] ends = {LEAST, GREATEST, 0, -1, 1};
        for (int i = 0; i < 64; i++) {
            CHECK.due("2: number " + (i + 1), x.type(ends[i % 5]), i + 1);
        }
        CHECK.due("6: 64 numbers make a sum", Check.outcome(() -> x.plain(2, false)) instanceof Integer, true);
        CHECK.due("11: of 64", x.results(), 64);
        CHECK.due("12: the last place", Check.outcome(() -> x.result(63)) instanceof Integer, true);
        CHECK.due("9: 64 numbers make a ring", x.keep(), 64);
        CHECK.due("3: all are wiped", x.wipe(), 64);
        CHECK.due("3: none is left", x.wipe(), 0);
        for (int i = 0; i < 64; i++) {
            CHECK.due("2: number " + (i + 1) + " behind wipe", x.type(i), i + 1);
        }
        CHECK.due("2: the 65th", Check.outcome(() -> x.type(1)), "IllegalStateException");
        CHECK.due("3: 64 again", x.wipe(), 64);
        CHECK.due("3: wipe of one", typed(9).wipe(), 1);
    }

    /** "and stays until it is wiped" */
    private static void rowStays() {
        Work[] works = {
            x -> x.root(0), x -> x.unit(0, 4), x -> x.plain(0, true), x -> x.done(0, false), x -> x.done(4, true),
            x -> x.grid(0, 2), x -> x.keep(), x -> x.around(0), x -> x.results(), x -> x.result(0), x -> x.set(4, 'b', 0),
            x -> x.drop(8), x -> x.kept(), x -> x.fits(0, 4), x -> x.search(0, 4), x -> x.measure(4, 'b', 0, 1),
            x -> x.searchMeasured(0, 4), x -> x.fresh(), x -> x.ways(0, 4), x -> x.program(4), x -> x.step(4, 0, 'o'),
            x -> x.out(4, 0), x -> x.fixed(), x -> x.fixedAt(0, false), x -> x.digit(true, 4), x -> x.digit(false, 4),
            x -> x.multiply(), x -> x.wipeDigits(), x -> x.checksum(), x -> x.zeroShare(), x -> x.meanCost(), x -> x.isSound()
        };
        Butterflyworks x = typed(5, -70, 8000, 4);
        x.plain(0, false);
        x.keep();
        x.set(4, 'c', 2);
        x.fixed();
        for (int i = 0; i < works.length; i++) {
            CHECK.isTrue("rows: call " + i + " answers", !(Check.outcome(answer(works[i], x)) instanceof String));
            dueRow("rows: the typed row stays, call " + i, plainOf(x, 4), (5 - 70 + 8000 + 4) % 7681, 1);
        }
    }

    /** The first number of the plain sum, and whether the rest is that of 5, -70, 8000, 4 too. */
    private static int[] plainOf(Butterflyworks x, int ground) {
        int first = x.plain(ground, false);
        Butterflyworks other = typed(5, -70, 8000, 4);
        other.plain(ground, false);
        return new int[] {first, Arrays.equals(resultOf(x), resultOf(other)) ? 1 : 0};
    }

    private static Check.Call answer(Work work, Butterflyworks x) {
        return () -> work.on(x);
    }

    /** "modulo a prime each number is taken from 0 up to the prime less 1" */
    private static void takenModulo() {
        for (int ground = 0; ground < 5; ground++) {
            int prime = PRIMES[ground];
            int[] numbers = {0, 1, -1, prime - 1, prime, prime + 1, 1 - prime, -prime, -prime - 1, LEAST, LEAST + 1, GREATEST};
            for (int number : numbers) {
                int want = Math.floorMod(number, prime);
                String what = number + " on " + prime;
                Butterflyworks x = typed(number);
                CHECK.due("6: " + what, x.plain(ground, false), want);
                CHECK.due("6: back, " + what, x.plain(ground, true), want);
                CHECK.due("7: " + what, x.done(ground, false), want);
                CHECK.due("7: back, " + what, x.done(ground, true), want);
                CHECK.due("8: " + what, x.grid(ground, 1), want);
                CHECK.due("9: " + what, x.keep(), 1);
                CHECK.due("10: " + what, x.around(ground), (int) ((long) want * want % prime));
                CHECK.due("12: " + what, x.result(0), (int) ((long) want * want % prime));
            }
        }
    }

    /** The plain sum and the one back, of each length from 1 to 64 on each ground, and the row again by the other one. */
    private static void plainSums() {
        for (int ground = 0; ground < 5; ground++) {
            for (int length = 1; length <= 64; length++) {
                if (fits(ground, length)) {
                    plainSum(ground, someRow(length));
                }
            }
        }
    }

    private static void plainSum(int ground, int[] row) {
        String what = row.length + " on " + ground;
        Butterflyworks x = typed(row);
        int[] reduced = new int[row.length];
        for (int i = 0; i < row.length; i++) {
            reduced[i] = Math.floorMod(row[i], PRIMES[ground]);
        }
        CHECK.due("6: the place 0, " + what, x.plain(ground, false), sum(ground, row, false)[0]);
        int[] forth = resultOf(x);
        dueRow("6: forth, " + what, forth, sum(ground, row, false));
        CHECK.due("6: the place 0 back, " + what, x.plain(ground, true), sum(ground, row, true)[0]);
        int[] back = resultOf(x);
        dueRow("6: back, " + what, back, sum(ground, row, true));
        Butterflyworks y = typed(forth);
        y.plain(ground, true);
        dueRow("6: forth and back, " + what, resultOf(y), reduced);
        Butterflyworks z = typed(back);
        z.plain(ground, false);
        dueRow("6: back and forth, " + what, resultOf(z), reduced);
    }

    private static int[] sum(int ground, int[] row, boolean isBack) {
        int n = row.length;
        int prime = PRIMES[ground];
        int root = new Butterflyworks().root(ground);
        int unit = power(ground, root, (prime - 1) / n);
        int used = isBack ? power(ground, unit, prime - 2) : unit;
        int[] made = new int[n];
        for (int k = 0; k < n; k++) {
            long sum = 0;
            for (int i = 0; i < n; i++) {
                sum += (long) Math.floorMod(row[i], prime) * power(ground, used, i * k) % prime;
            }
            made[k] = (int) (sum % prime * (isBack ? power(ground, n, prime - 2) : 1) % prime);
        }
        return made;
    }

    /** "What is made is the result, until the next one is made" */
    private static void resultStays() {
        Work[] leaving = {
            x -> x.wipe(), x -> x.type(9), x -> x.keep(), x -> x.set(2, 'd', 0), x -> x.search(0, 4), x -> x.searchMeasured(0, 4),
            x -> x.drop(4), x -> x.measure(2, 'd', 0, 1), x -> x.program(8), x -> x.digit(false, 1), x -> x.digit(true, 1),
            x -> x.multiply(), x -> x.wipeDigits(), x -> x.isSound(), x -> x.ways(0, 4), x -> x.fixedAt(0, false),
            x -> x.plain(5, false), x -> x.plain(0, true), x -> x.done(0, false), x -> x.grid(0, 3), x -> x.around(0),
            x -> x.result(4), x -> x.fixed()
        };
        Butterflyworks x = typed(1, 2, 3, 4);
        CHECK.due("11: there is none", x.results(), 0);
        CHECK.due("12: there is none", Check.outcome(() -> x.result(0)), "NoSuchElementException");
        x.fixed();
        CHECK.due("29: the result is not touched", x.results(), 0);
        x.plain(0, false);
        for (int i = 0; i < leaving.length; i++) {
            // Without typed numbers each of these is refused.
            if (i >= 16 && i <= 20) {
                x.wipe();
            }
            Check.outcome(answer(leaving[i], x));
            dueRow("rows: the result stays, call " + i, resultOf(x), 10, 6, 15, 7);
        }
        x.wipe();
        x.type(4);
        x.type(4);
        x.plain(0, false);
        dueRow("rows: the next one, which is shorter", resultOf(x), 8, 0);
        x.grid(0, 2);
        dueRow("rows: of a grid", resultOf(x), 8, 0);
        x.type(0);
        x.type(0);
        x.set(4, 'd', 0);
        x.done(0, false);
        dueRow("rows: of a plan, which is longer", resultOf(x), 8, (4 + 4 * 13) % 17, (4 - 4) % 17, (4 + 4 * 4) % 17);
    }

    private static int reduced(long number, int ground) {
        return (int) Math.floorMod(number, (long) PRIMES[ground]);
    }

    /** One row, one column, a single number, and 64 numbers in each shape; what need fit are the rows and columns. */
    private static void grids() {
        for (int length : new int[] {1, 2, 16, 24, 32, 60, 64}) {
            for (int rows = 1; rows <= length; rows++) {
                for (int ground = 0; ground < 5; ground++) {
                    if (length % rows == 0 && fits(ground, rows) && fits(ground, length / rows)) {
                        grid(ground, rows, someRow(length));
                    }
                }
            }
        }
        CHECK.due("8: 64 numbers on 17, 8 by 8", Check.outcome(() -> typed(new int[64]).grid(0, 8)), 0);
        CHECK.due("8: 32 numbers on 17, 2 by 16", Check.outcome(() -> typed(new int[32]).grid(0, 2)), 0);
        CHECK.due("8: 32 numbers on 17, 16 by 2", Check.outcome(() -> typed(new int[32]).grid(0, 16)), 0);
        CHECK.due("8: 1 by 32", Check.outcome(() -> typed(new int[32]).grid(0, 1)), "UnsupportedOperationException");
        CHECK.due("8: 32 by 1", Check.outcome(() -> typed(new int[32]).grid(0, 32)), "UnsupportedOperationException");
    }

    private static void grid(int ground, int rows, int[] row) {
        int columns = row.length / rows;
        int[] want = row.clone();
        for (int r = 0; r < rows; r++) {
            int[] made = sum(ground, Arrays.copyOfRange(want, r * columns, (r + 1) * columns), false);
            System.arraycopy(made, 0, want, r * columns, columns);
        }
        for (int c = 0; c < columns; c++) {
            int[] column = new int[rows];
            for (int r = 0; r < rows; r++) {
                column[r] = want[r * columns + c];
            }
            int[] made = sum(ground, column, false);
            for (int r = 0; r < rows; r++) {
                want[r * columns + c] = made[r];
            }
        }
        Butterflyworks x = typed(row);
        CHECK.due("8: the place 0", x.grid(ground, rows), want[0]);
        dueRow("8: " + rows + " rows of " + row.length + " on " + ground, resultOf(x), want);
    }

    /** "the ring at k less i, around"; kept "in place of another one", as it was typed */
    private static void rings() {
        for (int length : new int[] {1, 2, 3, 16, 60, 64}) {
            int[] ring = someRow(length);
            int[] row = new int[length];
            for (int i = 0; i < length; i++) {
                row[i] = 40000 * i - 7 * i * i * i + 1;
            }
            Butterflyworks x = typed(1, 2);
            x.keep();
            x.wipe();
            for (int number : ring) {
                x.type(number);
            }
            CHECK.due("9: " + length, x.keep(), length);
            x.wipe();
            for (int number : row) {
                x.type(number);
            }
            for (int ground = 0; ground < 5; ground++) {
                if (fits(ground, length)) {
                    int[] want = ringSums(ground, row, ring);
                    CHECK.due("10: the place 0 of " + length + " on " + ground, x.around(ground), want[0]);
                    dueRow("10: " + length + " on " + ground, resultOf(x), want);
                }
            }
        }
        Butterflyworks x = typed(18, 0, 0, 0);
        x.keep();
        CHECK.due("10: the typed row with itself", x.around(0), 1);
        CHECK.due("9: the ring is taken modulo each ground anew", x.around(1), 18 * 18 % 97);
        x.wipe();
        x.type(1);
        x.type(0);
        x.type(0);
        x.type(0);
        CHECK.due("9: the ring stays as the row is wiped", x.around(1), 18);
        x.keep();
        CHECK.due("9: in place of the other one", x.around(1), 1);
        Butterflyworks y = typed(0, 1);
        y.keep();
        y.around(0);
        dueRow("10: one place on twice comes around", resultOf(y), 1, 0);
    }

    private static int[] ringSums(int ground, int[] row, int[] ring) {
        int[] made = new int[row.length];
        for (int k = 0; k < row.length; k++) {
            long sum = 0;
            for (int i = 0; i < row.length; i++) {
                sum += (long) reduced(row[i], ground) * reduced(ring[Math.floorMod(k - i, row.length)], ground);
            }
            made[k] = reduced(sum, ground);
        }
        return made;
    }

    /** "n being 2, 4, 8, 16 or 32": of a single pair that is 1 at the place 0, all come out the same */
    private static void fixedSizes() {
        for (int pairs = 2; pairs <= 32; pairs *= 2) {
            int[] row = new int[2 * pairs];
            row[0] = 77;
            row[1] = -5;
            Butterflyworks x = typed(row);
            CHECK.due("29: " + pairs + " pairs", x.fixed(), 0);
            for (int k = 0; k < pairs; k++) {
                CHECK.due("30: real, " + pairs + " pairs, at " + k, x.fixedAt(k, false), 77);
                CHECK.due("30: imaginary, " + pairs + " pairs, at " + k, x.fixedAt(k, true), -5);
            }
            int behind = pairs;
            CHECK.due("30: behind the last, " + pairs, Check.outcome(() -> x.fixedAt(behind, false)), "NoSuchElementException");
        }
    }

    /** "each from -32768 to 32767", at each place */
    private static void fixedRanges() {
        for (int place = 0; place < 8; place++) {
            for (int number : new int[] {-32768, 32767}) {
                int[] row = new int[8];
                row[place] = number;
                Butterflyworks x = typed(row);
                CHECK.due("29: " + number + " at " + place, Check.outcome(x::fixed), number == -32768 || number == 32767 ? 2 : 0);
                // 32767 is halved to 16384, as is -32768 to -16384, and again ahead of the second layer.
                CHECK.due("30: halved twice, " + number + " at " + place, x.fixedAt(0, place % 2 == 1), number < 0 ? -8192 : 8192);
            }
        }
    }

    /** "ahead of each layer, if some part's amount is above 8191, all parts are halved, which counts as 1 of the scale" */
    private static void fixedHalving() {
        for (int place = 0; place < 4; place++) {
            for (int sign : new int[] {1, -1}) {
                int[] quiet = new int[4];
                quiet[place] = sign * 8191;
                CHECK.due("29: " + sign * 8191 + " at " + place, typed(quiet).fixed(), 0);
                int[] loud = new int[4];
                loud[place] = sign * 8192;
                loud[3 - place] = 6;
                Butterflyworks x = typed(loud);
                CHECK.due("29: " + sign * 8192 + " at " + place, x.fixed(), 1);
                CHECK.due("30: all parts are halved, " + place, x.fixedAt(0, place % 2 == 0), 3);
                CHECK.due("30: it is halved too, " + place, x.fixedAt(0, place % 2 == 1), sign * 4096);
            }
        }
        Butterflyworks second = typed(4096, 0, 0, 0, 4096, 0, 0, 0);
        CHECK.due("29: 8192 only ahead of the second layer", second.fixed(), 1);
        CHECK.due("30: which halves", second.fixedAt(0, false), 4096);
        Butterflyworks below = typed(4096, 0, 0, 0, 4095, 0, 0, 0);
        CHECK.due("29: 8191 ahead of the second layer", below.fixed(), 0);
        CHECK.due("30: which does not halve", below.fixedAt(0, false), 8191);
        Butterflyworks behind = typed(8191, 0, 8191, 0);
        CHECK.due("29: 16382 behind the last layer", behind.fixed(), 0);
        CHECK.due("30: which is not halved", behind.fixedAt(0, false), 16382);
        int[] all = new int[64];
        Arrays.fill(all, -32768);
        Butterflyworks most = typed(all);
        CHECK.due("29: ahead of all five layers", most.fixed(), 5);
        CHECK.due("30: -32768 times 32, halved five times", most.fixedAt(0, false), -32768);
        CHECK.due("30: imaginary too", most.fixedAt(0, true), -32768);
    }

    /** "Halving and dividing are to the nearest whole number, of two the greater one" */
    private static void fixedRounding() {
        int[][] halves = {{8193, 4097}, {8195, 4098}, {-8193, -4096}, {-8195, -4097}, {8194, 4097}, {-8194, -4097}};
        for (int[] half : halves) {
            Butterflyworks x = typed(half[0], 0, 0, 0);
            CHECK.due("29: " + half[0], x.fixed(), 1);
            CHECK.due("30: half of " + half[0], x.fixedAt(0, false), half[1]);
            CHECK.due("30: half of " + half[0] + " again", x.fixedAt(1, false), half[1]);
            Butterflyworks y = typed(0, half[0], 0, 0);
            y.fixed();
            CHECK.due("30: half of " + half[0] + ", imaginary", y.fixedAt(1, true), half[1]);
        }
        Butterflyworks low = typed(1, -1, 8192, 3);
        low.fixed();
        CHECK.due("30: half of 1 is 1, beside 4096", low.fixedAt(0, false), 1 + 4096);
        CHECK.due("30: half of -1 is 0, beside 2", low.fixedAt(0, true), 2);
        // The table's number at an eighth of a turn is 11585, 16384 less 4799: 11585 * q / 16384 to the nearest.
        for (int q = -40; q <= 40; q++) {
            int[] row = new int[16];
            row[2] = q;
            Butterflyworks x = typed(row);
            x.fixed();
            int want = (int) Math.floorDiv(11585L * q + 8192, 16384L);
            int wantLess = (int) Math.floorDiv(-11585L * q + 8192, 16384L);
            CHECK.due("30: an eighth of a turn of " + q, x.fixedAt(1, false), want);
            CHECK.due("30: an eighth of a turn of " + q + ", imaginary", x.fixedAt(1, true), wantLess);
            CHECK.due("30: p less t of " + q, x.fixedAt(5, false), -want);
        }
    }

    /** "what was made in fixed point at last" */
    private static void fixedStays() {
        Butterflyworks x = typed(1, 2, 3, 4, 5, 6, 7, 8);
        x.fixed();
        x.wipe();
        CHECK.due("30: the last place of four", x.fixedAt(3, true), 2 + 3 - 6 - 7);
        CHECK.due("30: its real part", x.fixedAt(3, false), 1 - 4 - 5 + 8);
        x.type(50000);
        Check.outcome(x::fixed);
        CHECK.due("30: a refused one does not count", x.fixedAt(3, true), 2 + 3 - 6 - 7);
        x.wipe();
        x.type(1);
        x.type(1);
        x.type(0);
        x.type(0);
        x.fixed();
        CHECK.due("30: a shorter one", x.fixedAt(1, true), 1);
        CHECK.due("30: the longer one is gone", Check.outcome(() -> x.fixedAt(2, false)), "NoSuchElementException");
        x.plain(0, false);
        CHECK.due("30: a plain sum does not count", x.fixedAt(0, true), 1);
    }

    /** "the first quarter, both ends too"; "Beyond a quarter", "beyond half a turn", all 64 places */
    private static void tableQuarters() {
        Butterflyworks x = new Butterflyworks();
        List<long[]> parts = new ArrayList<>(List.of(new long[] {16384, 0}, new long[] {0, 16384}));
        for (int count = 8; count <= 64; count *= 2) {
            List<long[]> next = new ArrayList<>();
            for (int k = 0; k <= count / 4; k++) {
                long cosine = k < parts.size() ? parts.get(k)[0] : -parts.get(count / 4 - k)[0];
                next.add(new long[] {nearestRoot(134217728 + 8192 * cosine), nearestRoot(134217728 - 8192 * cosine)});
            }
            parts = next;
        }
        for (int place = 0; place <= 16; place++) {
            long cosine = parts.get(place)[0];
            long sine = parts.get(place)[1];
            dueTable(x, place, cosine, sine);
            dueTable(x, 32 - place, -cosine, sine);
            dueTable(x, 32 + place, -cosine, -sine);
            if (place > 0) {
                dueTable(x, 64 - place, cosine, -sine);
            }
        }
        dueTable(x, 0, 16384, 0);
        dueTable(x, 16, 0, 16384);
        dueTable(x, 32, -16384, 0);
        dueTable(x, 48, 0, -16384);
        dueTable(x, 63, x.table(1, false), -x.table(1, true));
    }

    private static long nearestRoot(long square) {
        long root = 0;
        while ((2 * root + 1) * (2 * root + 1) <= 4 * square) {
            root++;
        }
        return root;
    }

    private static void dueTable(Butterflyworks x, int place, long cosine, long sine) {
        CHECK.due("31: cosine at " + place, (long) x.table(place, false), cosine);
        CHECK.due("31: sine at " + place, (long) x.table(place, true), sine);
    }

    /** "Two rows of digits, 0 to 9, at most 24 each" */
    private static void digitRows() {
        for (boolean isSecond : new boolean[] {false, true}) {
            Butterflyworks x = new Butterflyworks();
            for (int i = 0; i < 24; i++) {
                CHECK.due("32: digit " + i, x.digit(isSecond, i % 2 == 0 ? 0 : 9), i + 1);
            }
            CHECK.due("32: a full row", Check.outcome(() -> x.digit(isSecond, 0)), "IllegalStateException");
            for (int i = 0; i < 24; i++) {
                CHECK.due("32: the other row has its own 24", x.digit(!isSecond, 9), i + 1);
            }
            CHECK.due("33: both", x.wipeDigits(), 48);
            CHECK.due("33: empty ones", x.wipeDigits(), 0);
            CHECK.due("32: from the start again", x.digit(isSecond, 9), 1);
            CHECK.due("33: one row alone", x.wipeDigits(), 1);
        }
    }

    /** "that the product of the primes is more than 81 times the lesser length": 193 is more than 162, not than 243 */
    private static void joinedGrounds() {
        for (int first = 1; first <= 24; first++) {
            for (int second = 1; second <= 24; second++) {
                Butterflyworks x = nines(first, second);
                CHECK.due("34: digits of " + first + " and " + second + " nines", x.multiply(), product(first, second).length());
                CHECK.due("36: " + first + " and " + second + " nines", x.joined(), Math.min(first, second) < 3 ? 1 : 2);
                int last = product(first, second).length() - 1;
                CHECK.due("35: the highest digit", x.product(last), product(first, second).charAt(0) - '0');
            }
        }
    }

    private static Butterflyworks nines(int first, int second) {
        Butterflyworks x = new Butterflyworks();
        for (int i = 0; i < first; i++) {
            x.digit(false, 9);
        }
        for (int i = 0; i < second; i++) {
            x.digit(true, 9);
        }
        return x;
    }

    private static String product(int first, int second) {
        return BigInteger.TEN.pow(first).subtract(BigInteger.ONE).multiply(BigInteger.TEN.pow(second).subtract(BigInteger.ONE)).toString();
    }

    /** "what comes out is joined, and carried"; "without zeros ahead, at least 1" */
    private static void productsCarried() {
        Butterflyworks most = nines(24, 24);
        CHECK.due("34: 24 by 24 nines", most.multiply(), 48);
        for (int i = 0; i < 48; i++) {
            CHECK.due("35: 24 by 24 nines at " + i, most.product(i), product(24, 24).charAt(47 - i) - '0');
        }
        int[][] pairs = {{0, 0}, {0, 9}, {9, 0}, {1, 1}, {1, 9}, {2, 5}, {3, 3}, {9, 9}, {5, 2}, {4, 2}};
        for (int[] pair : pairs) {
            Butterflyworks x = new Butterflyworks();
            x.digit(false, pair[0]);
            x.digit(true, pair[1]);
            int want = pair[0] * pair[1];
            CHECK.due("34: " + pair[0] + " times " + pair[1], x.multiply(), want > 9 ? 2 : 1);
            CHECK.due("35: lowest of " + want, x.product(0), want % 10);
            CHECK.due("35: behind it", Check.outcome(() -> x.product(1)), want > 9 ? (Object) (want / 10) : "NoSuchElementException");
        }
        Butterflyworks zeros = new Butterflyworks();
        for (int i = 0; i < 24; i++) {
            zeros.digit(false, 0);
            zeros.digit(true, i == 23 ? 9 : 0);
        }
        CHECK.due("34: nothing but zeros", zeros.multiply(), 1);
        CHECK.due("35: is 0", zeros.product(0), 0);
        CHECK.due("35: and no more", Check.outcome(() -> zeros.product(1)), "NoSuchElementException");
        Butterflyworks high = new Butterflyworks();
        for (int i = 0; i < 24; i++) {
            high.digit(false, i == 23 ? 1 : 0);
            high.digit(true, i == 23 ? 9 : 0);
        }
        CHECK.due("34: zeros below stay", high.multiply(), 47);
        CHECK.due("35: the highest", high.product(46), 9);
        CHECK.due("35: below it", high.product(45), 0);
    }

    /** "Makes the product of both rows, which stay"; "the last product" */
    private static void productStays() {
        Butterflyworks x = nines(2, 1);
        CHECK.due("34: 99 times 9", x.multiply(), 3);
        CHECK.due("34: once more", x.multiply(), 3);
        CHECK.due("33: both stayed", x.wipeDigits(), 3);
        CHECK.due("35: as the digits are wiped, the product stays", x.product(2), 8);
        CHECK.due("34: an empty row makes none", Check.outcome(x::multiply), "UnsupportedOperationException");
        CHECK.due("36: that stays too", x.joined(), 1);
        for (int i = 0; i < 3; i++) {
            x.digit(false, 0);
            x.digit(true, 0);
        }
        CHECK.due("34: the next one is shorter", x.multiply(), 1);
        CHECK.due("36: of the next one", x.joined(), 2);
        CHECK.due("35: of the one before nothing is left", Check.outcome(() -> x.product(1)), "NoSuchElementException");
    }

    /** "length: 2, 4, 8, 16, 32 or 64", the first and the last place */
    private static void turnedPlaces() {
        Butterflyworks x = new Butterflyworks();
        for (int length = 2; length <= 64; length *= 2) {
            CHECK.due("37: the first of " + length, x.turned(0, length), 0);
            CHECK.due("37: the last of " + length, x.turned(length - 1, length), length - 1);
            CHECK.due("37: 1 of " + length, x.turned(1, length), length / 2);
            CHECK.due("37: the middle of " + length, x.turned(length / 2, length), 1);
        }
    }

    /** "one that stays is a cycle"; "more than 64 numbers" */
    private static void cycles() {
        Butterflyworks x = new Butterflyworks();
        CHECK.due("38: a single number", x.cycles(1, 1), 1);
        CHECK.due("38: 64 rows of 1", x.cycles(64, 1), 64);
        CHECK.due("38: a row of 64", x.cycles(1, 64), 64);
        for (int rows = 1; rows <= 64; rows++) {
            for (int columns = 1; rows * columns <= 64; columns++) {
                CHECK.due("38: " + rows + " by " + columns, x.cycles(rows, columns), countCycles(rows, columns));
                x = new Butterflyworks();
            }
        }
    }

    private static int countCycles(int rows, int columns) {
        int[] goesTo = new int[rows * columns];
        for (int r = 0; r < rows; r++) {
            for (int c = 0; c < columns; c++) {
                goesTo[r * columns + c] = c * rows + r;
            }
        }
        int count = 0;
        for (int start = 0; start < goesTo.length; start++) {
            int least = start;
            for (int at = goesTo[start]; at != start; at = goesTo[at]) {
                least = Math.min(least, at);
            }
            count += least == start ? 1 : 0;
        }
        return count;
    }

    /** "7 at first"; "0 without one"; "if there is none" */
    private static void sumsOverResults() {
        Butterflyworks x = typed(0, 0);
        CHECK.due("39: without a result", x.checksum(), 7L);
        CHECK.due("40: without a result", Check.outcome(x::zeroShare), "NoSuchElementException");
        x.plain(0, false);
        CHECK.due("39: of zeros", x.checksum(), 7L * 31 * 31);
        CHECK.due("40: all are zeros", x.zeroShare(), 1.0f);
        Butterflyworks full = typed(someRow(64));
        full.plain(4, false);
        BigInteger sum = BigInteger.valueOf(7);
        for (int i = 0; i < 64; i++) {
            sum = sum.multiply(BigInteger.valueOf(31)).add(BigInteger.valueOf(full.result(i)));
        }
        CHECK.due("39: it wraps around as a long does", full.checksum(), sum.longValue());
        CHECK.isTrue("39: as it is beyond a long", sum.bitLength() > 64);
        Butterflyworks one = new Butterflyworks();
        for (int i = 0; i < 64; i++) {
            one.type(1);
        }
        one.plain(2, false);
        CHECK.due("40: 63 of 64", one.zeroShare(), 63.0f / 64.0f);
        Butterflyworks three = typed(1, 0, 0);
        three.plain(1, false);
        CHECK.due("40: none of 3", three.zeroShare(), 0.0f);
        Butterflyworks share = typed(1, 1, 1);
        share.plain(1, false);
        CHECK.due("40: both converted to float", share.zeroShare(), (float) 2 / (float) 3);
        CHECK.due("12: NoSuchElementException's own class", Check.outcome(() -> share.result(3)), NoSuchElementException.class.getSimpleName());
    }
}
