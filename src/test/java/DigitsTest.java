import java.math.BigInteger;
import java.util.NoSuchElementException;

/** Promises 32 to 36: digits and their products. */
public final class DigitsTest {
    private static final Check CHECK = new Check("DigitsTest");
    private static final Class<IllegalArgumentException> ARGUMENT = IllegalArgumentException.class;
    private static final Class<IllegalStateException> STATE = IllegalStateException.class;
    private static final Class<NoSuchElementException> ELEMENT = NoSuchElementException.class;
    private static final Class<UnsupportedOperationException> OPERATION = UnsupportedOperationException.class;

    public static void main(String[] args) {
        typing();
        throwing();
        zeros();
        inTurn();
        for (int first = 1; first <= 24; first++) {
            for (int second = 1; second <= 24; second++) {
                product(first, second, 9, 9);
                product(first, second, 7, 3);
            }
        }
        CHECK.end();
    }

    private static void typing() {
        Butterflyworks x = new Butterflyworks();
        for (int i = 1; i <= 24; i++) {
            CHECK.due("32: second row", x.digit(true, i % 10), i);
        }
        CHECK.throwing("32: the 25th", STATE, () -> x.digit(true, 0));
        CHECK.throwing("32: no digit comes first", ARGUMENT, () -> x.digit(true, 10));
        CHECK.throwing("32: less than 0", ARGUMENT, () -> x.digit(false, -1));
        CHECK.due("32: first row", x.digit(false, 9), 1);
        CHECK.due("33: both rows", x.wipeDigits(), 25);
        CHECK.due("33: none", x.wipeDigits(), 0);
        CHECK.due("32: anew", x.digit(true, 0), 1);
    }

    private static void throwing() {
        Butterflyworks x = new Butterflyworks();
        CHECK.throwing("35: no product", ELEMENT, () -> x.product(0));
        CHECK.throwing("36: no product", ELEMENT, x::joined);
        CHECK.throwing("34: both are empty", OPERATION, x::multiply);
        x.digit(true, 4);
        CHECK.throwing("34: the first one is empty", OPERATION, x::multiply);
        x.wipeDigits();
        x.digit(false, 4);
        CHECK.throwing("34: the second one is empty", OPERATION, x::multiply);
        x.digit(true, 4);
        CHECK.due("34: 4 times 4", x.multiply(), 2);
        CHECK.due("34: the rows stay", x.multiply(), 2);
        CHECK.due("35: lower", x.product(0), 6);
        CHECK.due("35: higher", x.product(1), 1);
        CHECK.throwing("35: place 2", ELEMENT, () -> x.product(2));
        CHECK.throwing("35: place -1", ELEMENT, () -> x.product(-1));
        x.wipeDigits();
        CHECK.throwing("34: wiped", OPERATION, x::multiply);
        CHECK.due("35: the last product stays", x.product(1), 1);
        CHECK.due("36: so does its count", x.joined(), 1);
    }

    private static void zeros() {
        Butterflyworks x = new Butterflyworks();
        for (int i = 0; i < 5; i++) {
            x.digit(false, 0);
            x.digit(true, i == 0 ? 7 : 0);
        }
        CHECK.due("34: 0 has one digit", x.multiply(), 1);
        CHECK.due("35: which is 0", x.product(0), 0);
        CHECK.throwing("35: and no other one", ELEMENT, () -> x.product(1));
        CHECK.due("36: by the typed lengths", x.joined(), 2);
        x.wipeDigits();
        int[] digits = {3, 0, 0};
        for (int digit : digits) {
            x.digit(false, digit);
            x.digit(true, digit);
        }
        CHECK.due("34: zeros ahead do not count", x.multiply(), 1);
        CHECK.due("35: 9", x.product(0), 9);
    }

    /** One product behind another one, on the same object. */
    private static void inTurn() {
        Butterflyworks x = new Butterflyworks();
        int[][] pairs = {{9, 9}, {2, 3}, {0, 5}, {1, 1}, {8, 7}};
        for (int[] pair : pairs) {
            for (int length = 4; length > 0; length--) {
                x.wipeDigits();
                int left = 0;
                int right = 0;
                for (int i = 0; i < length; i++) {
                    x.digit(false, pair[0]);
                    x.digit(true, pair[1]);
                    left = 10 * left + pair[0];
                    right = 10 * right + pair[1];
                }
                String want = new StringBuilder(Integer.toString(left * right)).reverse().toString();
                CHECK.due("34: " + left + " times " + right, x.multiply(), want.length());
                for (int i = 0; i < want.length(); i++) {
                    CHECK.due("35: " + left + " times " + right + " at " + i, x.product(i), want.charAt(i) - '0');
                }
                CHECK.due("36: " + left + " times " + right, x.joined(), length <= 2 ? 1 : 2);
            }
        }
    }

    private static void product(int first, int second, int firstDigit, int secondStep) {
        Butterflyworks x = new Butterflyworks();
        BigInteger left = BigInteger.ZERO;
        BigInteger right = BigInteger.ZERO;
        for (int i = 0; i < first; i++) {
            x.digit(false, firstDigit);
            left = left.add(BigInteger.valueOf(firstDigit).multiply(BigInteger.TEN.pow(i)));
        }
        for (int i = 0; i < second; i++) {
            int digit = secondStep == 9 ? 9 : (i * secondStep + 1) % 10;
            x.digit(true, digit);
            right = right.add(BigInteger.valueOf(digit).multiply(BigInteger.TEN.pow(i)));
        }
        String want = new StringBuilder(left.multiply(right).toString()).reverse().toString();
        String what = first + " by " + second + " digits";
        CHECK.due("34: " + what, x.multiply(), want.length());
        for (int i = 0; i < want.length(); i++) {
            CHECK.due("35: " + what + " at " + i, x.product(i), want.charAt(i) - '0');
        }
        CHECK.due("36: " + what, x.joined(), Math.min(first, second) <= 2 ? 1 : 2);
    }
}
