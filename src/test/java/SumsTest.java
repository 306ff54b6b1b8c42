import java.lang.reflect.Field;
import java.util.NoSuchElementException;

/** Promises 37 to 42: places, cycles, sums over results and plans, soundness. */
public final class SumsTest {
    private static final Check CHECK = new Check("SumsTest");
    private static final Class<IllegalArgumentException> ARGUMENT = IllegalArgumentException.class;
    private static final Class<NoSuchElementException> ELEMENT = NoSuchElementException.class;

    public static void main(String[] args) throws Exception {
        turned();
        cycles();
        checksum();
        zeroShare();
        meanCost();
        sound();
        unsound();
        CHECK.end();
    }

    private static void turned() {
        Butterflyworks x = new Butterflyworks();
        for (int length = 2; length <= 64; length *= 2) {
            for (int place = 0; place < length; place++) {
                int want = Integer.reverse(place) >>> 32 - Integer.numberOfTrailingZeros(length);
                CHECK.due("37: " + place + " of " + length, x.turned(place, length), want);
            }
        }
        int[] wrong = {Integer.MIN_VALUE, -2, -1, 0, 1, 3, 6, 48, 63, 65, 128, Integer.MAX_VALUE};
        for (int length : wrong) {
            CHECK.throwing("37: length " + length, ARGUMENT, () -> x.turned(0, length));
        }
        CHECK.throwing("37: place -1", ARGUMENT, () -> x.turned(-1, 8));
        CHECK.throwing("37: place 8 of 8", ARGUMENT, () -> x.turned(8, 8));
    }

    private static void cycles() {
        Butterflyworks x = new Butterflyworks();
        Model model = new Model();
        for (int rows = 1; rows <= 64; rows++) {
            for (int columns = 1; columns <= 64; columns++) {
                int r = rows;
                int c = columns;
                CHECK.due("38: " + r + " by " + c, Check.outcome(() -> x.cycles(r, c)), Check.outcome(() -> model.cycles(r, c)));
            }
        }
        CHECK.due("38: 1 by 1", x.cycles(1, 1), 1);
        CHECK.due("38: a row stays", x.cycles(1, 64), 64);
        CHECK.due("38: 8 by 8", x.cycles(8, 8), 8 + 28);
        CHECK.throwing("38: 0 rows", ARGUMENT, () -> x.cycles(0, 4));
        CHECK.throwing("38: 0 columns", ARGUMENT, () -> x.cycles(4, 0));
        CHECK.throwing("38: both below 0", ARGUMENT, () -> x.cycles(-4, -4));
        CHECK.throwing("38: 65 rows", ARGUMENT, () -> x.cycles(65, 1));
        CHECK.throwing("38: 5 by 13", ARGUMENT, () -> x.cycles(5, 13));
        CHECK.throwing("38: so many that they wrap around", ARGUMENT, () -> x.cycles(65536, 65536));
    }

    private static void checksum() {
        Butterflyworks x = new Butterflyworks();
        CHECK.due("39: none", x.checksum(), 7L);
        x.type(5);
        x.plain(1, false);
        CHECK.due("39: one", x.checksum(), 7L * 31 + 5);
        x.wipe();
        CHECK.due("39: the typed row does not matter", x.checksum(), 7L * 31 + 5);
        for (int i = 0; i < 64; i++) {
            x.type(i * i);
        }
        x.plain(4, false);
        long want = 7;
        for (int i = 0; i < 64; i++) {
            want = want * 31 + x.result(i);
        }
        CHECK.due("39: it wraps around", x.checksum(), want);
    }

    private static void zeroShare() {
        Butterflyworks x = new Butterflyworks();
        CHECK.throwing("40: none", ELEMENT, x::zeroShare);
        x.type(1);
        x.type(0);
        x.type(0);
        x.plain(1, false);
        CHECK.due("40: no zeros", x.zeroShare(), 0.0f);
        x.wipe();
        x.type(1);
        x.type(1);
        x.type(1);
        x.plain(1, false);
        CHECK.due("40: two of three", x.zeroShare(), 2.0f / 3.0f);
        x.wipe();
        x.type(97);
        x.plain(1, false);
        CHECK.due("40: all", x.zeroShare(), 1.0f);
    }

    private static void meanCost() {
        Butterflyworks x = new Butterflyworks();
        CHECK.due("41: new", x.meanCost(), 0.0);
        x.set(2, 'd', 0);
        CHECK.due("41: one more", x.meanCost(), 7.0);
        x.set(3, 'd', 0);
        CHECK.due("41: two more", x.meanCost(), 47.0 / 3.0);
        x.measure(4, 'd', 0, 1);
        x.searchMeasured(0, 4);
        CHECK.due("41: by proved costs", x.meanCost(), 107.0 / 4.0);
        x.drop(4);
        x.drop(3);
        x.drop(2);
        CHECK.due("41: dropped", x.meanCost(), 0.0);
    }

    private static void sound() {
        Butterflyworks x = new Butterflyworks();
        for (int length = 2; length <= 64; length++) {
            for (char rule : "grcbd".toCharArray()) {
                for (int a = 2; a <= 32 && x.kept() < length; a++) {
                    int n = length;
                    int told = a;
                    Check.outcome(() -> x.set(n, rule, told));
                }
            }
        }
        CHECK.due("42: a plan for each length", x.kept(), 64);
        CHECK.due("42: all of them are sound", x.isSound(), true);
        CHECK.due("42: the result is not touched", x.results(), 0);
        CHECK.due("42: nor is the row", x.wipe(), 0);
    }

    /** Breaks the inside of an object on purpose, as no call can; isSound must see it. */
    private static void unsound() throws Exception {
        String[] figures = {"products", "sums", "depth", "size"};
        for (String figure : figures) {
            Butterflyworks x = new Butterflyworks();
            x.set(6, 'c', 2);
            Object plan = ((Object[]) inside(x, "plans"))[6];
            Field field = plan.getClass().getDeclaredField(figure);
            field.setAccessible(true);
            field.setInt(plan, field.getInt(plan) + (figure.equals("size") ? -1 : 1));
            CHECK.due("42: wrong " + figure, x.isSound(), false);
        }
        Butterflyworks y = new Butterflyworks();
        y.set(6, 'c', 2);
        Object plan = ((Object[]) inside(y, "plans"))[6];
        Field field = plan.getClass().getDeclaredField("rule");
        field.setAccessible(true);
        field.setChar(plan, 'g');
        CHECK.due("42: a plan that counts as another", y.isSound(), false);
        Butterflyworks z = new Butterflyworks();
        z.measure(2, 'd', 0, 1);
        z.measure(3, 'd', 0, 1);
        CHECK.due("42: two measures", z.isSound(), true);
        Object measures = inside(z, "measures");
        Field lengths = measures.getClass().getDeclaredField("lengths");
        lengths.setAccessible(true);
        ((int[]) lengths.get(measures))[1] = 2;
        CHECK.due("42: two for the same", z.isSound(), false);
        for (int count : new int[] {21, -1}) {
            Butterflyworks v = new Butterflyworks();
            Object told = inside(v, "measures");
            Field counted = told.getClass().getDeclaredField("count");
            counted.setAccessible(true);
            counted.setInt(told, count);
            CHECK.due("42: " + count + " measures", v.isSound(), false);
        }
        Butterflyworks w = new Butterflyworks();
        w.set(4, 'c', 2);
        Object grounds = inside(w, "grounds");
        Object ground = ((Object[]) grounds)[0];
        Field root = ground.getClass().getDeclaredField("root");
        root.setAccessible(true);
        root.setInt(ground, 4);
        CHECK.due("42: a plan that makes something else", w.isSound(), false);
    }

    private static Object inside(Butterflyworks x, String name) throws Exception {
        Field field = Butterflyworks.class.getDeclaredField(name);
        field.setAccessible(true);
        return field.get(x);
    }
}
