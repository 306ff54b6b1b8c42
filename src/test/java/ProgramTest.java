import java.util.NoSuchElementException;

/** Promises 26 to 28: straight programs. */
public final class ProgramTest {
    private static final Check CHECK = new Check("ProgramTest");
    private static final Class<IllegalArgumentException> ARGUMENT = IllegalArgumentException.class;
    private static final Class<NoSuchElementException> ELEMENT = NoSuchElementException.class;
    private static final Butterflyworks WORKS = new Butterflyworks();

    public static void main(String[] args) {
        sizes();
        four();
        for (int length = 1; length <= 8; length++) {
            runProgram(length);
            noStepTwice(length);
        }
        throwing();
        CHECK.end();
    }

    private static void sizes() {
        int[] want = {0, 2, 10, 16, 36, 42, 78, 84};
        for (int i : new int[] {3, 7, 2, 0, 1, 4, 6, 5, 5}) {
            CHECK.due("26: length " + (i + 1), WORKS.program(i + 1), want[i]);
        }
    }

    private static void four() {
        String signs = "+++*+-*+-+-*+-*+";
        int[] lefts = {0, 4, 5, 1, 0, 8, 3, 9, 0, 12, 13, 1, 0, 16, 3, 17};
        int[] rights = {1, 2, 3, 1, 7, 2, 3, 10, 1, 2, 3, 3, 15, 2, 1, 18};
        for (int i = 0; i < lefts.length; i++) {
            CHECK.due("27: sign " + i, WORKS.step(4, i, 'o'), (int) signs.charAt(i));
            CHECK.due("27: left " + i, WORKS.step(4, i, 'l'), lefts[i]);
            CHECK.due("27: right " + i, WORKS.step(4, i, 'r'), rights[i]);
        }
        int[] outs = {6, 11, 14, 19};
        for (int k = 0; k < 4; k++) {
            CHECK.due("28: out " + k, WORKS.out(4, k), outs[k]);
        }
    }

    /** What the steps make of a row modulo a prime is the plain sum. */
    private static void runProgram(int length) {
        int prime = length == 7 ? 29 : length == 5 ? 7681 : 193;
        if ((prime - 1) % length != 0) {
            throw new IllegalStateException("the prime does not fit");
        }
        long unit = unitOf(prime, length);
        int count = WORKS.program(length);
        long[] numbers = new long[length + count];
        for (int i = 0; i < length; i++) {
            numbers[i] = (i * i + 3 * i + 2) % prime;
        }
        for (int i = 0; i < count; i++) {
            int sign = WORKS.step(length, i, 'o');
            int left = WORKS.step(length, i, 'l');
            int right = WORKS.step(length, i, 'r');
            long other = sign == '*' ? power(unit, right, prime) : numbers[right];
            long made = sign == '*' ? numbers[left] * other : sign == '+' ? numbers[left] + other : numbers[left] - other;
            numbers[length + i] = Math.floorMod(made, (long) prime);
        }
        for (int k = 0; k < length; k++) {
            long sum = 0;
            for (int i = 0; i < length; i++) {
                sum += numbers[i] * power(unit, i * k, prime);
            }
            CHECK.due("28: " + length + " comes out at " + k, numbers[WORKS.out(length, k)], sum % prime);
        }
    }

    private static long unitOf(int prime, int length) {
        for (long unit = 1; unit < prime; unit++) {
            int order = 1;
            for (long power = unit; power != 1 && order <= length; power = power * unit % prime) {
                order++;
            }
            if (order == length) {
                return unit;
            }
        }
        throw new IllegalStateException("there is no unit");
    }

    private static long power(long base, int exponent, int prime) {
        long power = 1;
        for (int i = 0; i < exponent; i++) {
            power = power * base % prime;
        }
        return power;
    }

    private static void noStepTwice(int length) {
        java.util.Set<String> seen = new java.util.HashSet<>();
        for (int i = 0; i < WORKS.program(length); i++) {
            String step = WORKS.step(length, i, 'o') + " " + WORKS.step(length, i, 'l') + " " + WORKS.step(length, i, 'r');
            CHECK.isTrue("27: step " + i + " of " + length + " is new", seen.add(step));
        }
    }

    private static void throwing() {
        CHECK.throwing("26: length 0", ARGUMENT, () -> WORKS.program(0));
        CHECK.throwing("26: length 9", ARGUMENT, () -> WORKS.program(9));
        CHECK.throwing("27: length 0", ARGUMENT, () -> WORKS.step(0, 0, 'o'));
        CHECK.throwing("27: length 9", ARGUMENT, () -> WORKS.step(9, 0, 'o'));
        CHECK.throwing("27: thing first", ARGUMENT, () -> WORKS.step(4, 16, 'a'));
        CHECK.throwing("27: step 16 of 4", ELEMENT, () -> WORKS.step(4, 16, 'o'));
        CHECK.throwing("27: step -1", ELEMENT, () -> WORKS.step(4, -1, 'o'));
        CHECK.throwing("27: 1 has no steps", ELEMENT, () -> WORKS.step(1, 0, 'r'));
        CHECK.throwing("28: length 0", ARGUMENT, () -> WORKS.out(0, 0));
        CHECK.throwing("28: length 9", ARGUMENT, () -> WORKS.out(9, 9));
        CHECK.throwing("28: place 4 of 4", ELEMENT, () -> WORKS.out(4, 4));
        CHECK.throwing("28: place -1", ELEMENT, () -> WORKS.out(4, -1));
        CHECK.due("28: 1 is the row itself", WORKS.out(1, 0), 0);
    }
}
