import java.util.NoSuchElementException;

/**
 * A maker of fast transforms: modulo primes by plans, in fixed point, on grids, around rings, and
 * for products of long numbers. Every row that the calls need is made once, in the constructor, as
 * all calls of a run share one room for objects; only plans are made anew.
 */
public final class Butterflyworks {
    private static final int LONGEST = 64;
    private static final int LONGEST_PLAIN = 16;
    /** The longest chain of plans, 59 58 29 28 14 7 6 3 2 1 and its like, has ten of them. */
    private static final int LEVELS = 12;

    private final Ground[] grounds;
    private final Row typed;
    private final Row made;
    private final Row ring;
    private final Plan[] plans;
    private final Planner planner;
    private final Measures measures;
    private final Transformer transformer;
    private final StraightProgram straight;
    private final FixedPoint fixedPoint;
    private final LongProduct longProduct;
    private final Row probe;
    private final Row probeMade;
    private final Row probePlain;

    public Butterflyworks() {
        // The roots are written out, as to find them here would cost each object thousands of steps.
        grounds = new Ground[] {
            new Ground(17, 3), new Ground(97, 5), new Ground(193, 5), new Ground(257, 3), new Ground(7681, 17)
        };
        typed = new Row(LONGEST);
        made = new Row(LONGEST);
        ring = new Row(LONGEST);
        plans = new Plan[LONGEST + 1];
        plans[1] = new Plan(1, '1', 0, null, null);
        planner = new Planner();
        measures = new Measures();
        transformer = new Transformer();
        straight = new StraightProgram();
        fixedPoint = new FixedPoint();
        longProduct = new LongProduct();
        probe = new Row(LONGEST);
        probeMade = new Row(LONGEST);
        probePlain = new Row(LONGEST);
    }

    // ---- rows -------------------------------------------------------------------------------

    public int type(int number) throws IllegalStateException {
        if (!typed.add(number)) {
            throw new IllegalStateException("there are 64 numbers");
        }
        return typed.size();
    }

    public int wipe() {
        return typed.clear();
    }

    public int root(int ground) throws IllegalArgumentException {
        return groundOf(ground).root;
    }

    public int unit(int ground, int length) throws IllegalArgumentException, UnsupportedOperationException {
        Ground place = groundOf(ground);
        needLength(length, 1);
        needHeld(place, length);
        return place.unitOf(length, false);
    }

    public int plain(int ground, boolean isBack) throws IllegalArgumentException, UnsupportedOperationException {
        Ground place = groundOf(ground);
        needTyped();
        needHeld(place, typed.size());
        transformer.makePlainly(place, typed, isBack, made);
        return made.at(0);
    }

    public int done(int ground, boolean isBack)
            throws IllegalArgumentException, NoSuchElementException, UnsupportedOperationException {
        Ground place = groundOf(ground);
        Plan plan = keptPlan(typed.size());
        if (!isFitting(place, plan)) {
            throw new UnsupportedOperationException("the plan does not fit the ground");
        }
        transformer.make(place, plan, typed, isBack, made);
        return made.at(0);
    }

    public int grid(int ground, int rows) throws IllegalArgumentException, UnsupportedOperationException {
        Ground place = groundOf(ground);
        needLength(rows, 1);
        needTyped();
        if (typed.size() % rows != 0) {
            throw new UnsupportedOperationException("the rows do not divide what is typed");
        }
        needHeld(place, rows);
        needHeld(place, typed.size() / rows);
        transformer.makeGrid(place, typed, rows, made);
        return made.at(0);
    }

    public int keep() throws UnsupportedOperationException {
        needTyped();
        ring.copyFrom(typed);
        return ring.size();
    }

    public int around(int ground) throws IllegalArgumentException, UnsupportedOperationException {
        Ground place = groundOf(ground);
        needTyped();
        int length = typed.size();
        if (ring.size() != length) {
            throw new UnsupportedOperationException("the ring has another length");
        }
        needHeld(place, length);
        made.clear();
        for (int k = 0; k < length; k++) {
            made.add(place.ringSum(typed, ring, length, k));
        }
        return made.at(0);
    }

    public int results() {
        return made.size();
    }

    public int result(int place) throws NoSuchElementException {
        needPlace(made, place);
        return made.at(place);
    }

    // ---- kept plans -------------------------------------------------------------------------

    public int set(int length, char rule, int a) throws IllegalArgumentException, UnsupportedOperationException {
        needRule(length, rule, a);
        int firstLength = Rules.firstLength(length, rule, a);
        int secondLength = Rules.secondLength(rule, a);
        needPart(firstLength);
        needPart(secondLength);
        Plan plan = new Plan(length, rule, Rules.ownA(rule, a), partOf(firstLength), partOf(secondLength));
        plans[length] = plan;
        return plan.cost();
    }

    public boolean drop(int length) throws IllegalArgumentException {
        needLength(length, 2);
        boolean wasKept = plans[length] != null;
        plans[length] = null;
        return wasKept;
    }

    public int kept() {
        int count = 0;
        for (Plan plan : plans) {
            if (plan != null) {
                count++;
            }
        }
        return count;
    }

    public char rule(int length) throws IllegalArgumentException, NoSuchElementException {
        needLength(length, 1);
        return keptPlan(length).rule;
    }

    public int nodes(int length) throws IllegalArgumentException, NoSuchElementException {
        needLength(length, 1);
        return keptPlan(length).size;
    }

    public int node(int length, int index, char what) throws IllegalArgumentException, NoSuchElementException {
        needLength(length, 1);
        if (what != 'n' && what != 'r' && what != 'a' && what != 'd') {
            throw new IllegalArgumentException("a node has no such thing");
        }
        int answer = nodeFigure(keptPlan(length), index, what);
        if (answer < 0) {
            throw new NoSuchElementException("there is no such node");
        }
        return answer;
    }

    public int figure(int length, char what) throws IllegalArgumentException, NoSuchElementException {
        needLength(length, 1);
        if (what != 'p' && what != 's' && what != 'c' && what != 'd') {
            throw new IllegalArgumentException("there is no such figure");
        }
        Plan plan = keptPlan(length);
        if (what == 'p') {
            return plan.products;
        }
        if (what == 's') {
            return plan.sums;
        }
        return what == 'c' ? plan.cost() : plan.depth;
    }

    public boolean fits(int ground, int length) throws IllegalArgumentException, NoSuchElementException {
        Ground place = groundOf(ground);
        needLength(length, 1);
        return isFitting(place, keptPlan(length));
    }

    // ---- searches ---------------------------------------------------------------------------

    public int search(int ground, int length) throws IllegalArgumentException, UnsupportedOperationException {
        return keepBest(ground, length, null);
    }

    public int measure(int length, char rule, int a, int cost) throws IllegalArgumentException {
        needRule(length, rule, a);
        if (cost < 0 || cost > 99999) {
            throw new IllegalArgumentException("the cost is out of range");
        }
        return measures.tell(length, rule, Rules.ownA(rule, a), cost);
    }

    public int searchMeasured(int ground, int length) throws IllegalArgumentException, UnsupportedOperationException {
        int cost = keepBest(ground, length, measures);
        measures.countSearch();
        return cost;
    }

    public int fresh() {
        return measures.countFresh();
    }

    public long ways(int ground, int length) throws IllegalArgumentException, UnsupportedOperationException {
        Ground place = groundOf(ground);
        needLength(length, 1);
        needHeld(place, length);
        return planner.countTrees(place, length);
    }

    // ---- programs ---------------------------------------------------------------------------

    public int program(int length) throws IllegalArgumentException {
        needProgram(length);
        straight.write(length);
        return straight.countSteps();
    }

    public int step(int length, int index, char what) throws IllegalArgumentException, NoSuchElementException {
        needProgram(length);
        if (what != 'o' && what != 'l' && what != 'r') {
            throw new IllegalArgumentException("a step has no such thing");
        }
        straight.write(length);
        if (index < 0 || index >= straight.countSteps()) {
            throw new NoSuchElementException("there is no such step");
        }
        return straight.partOfStep(index, what);
    }

    public int out(int length, int place) throws IllegalArgumentException, NoSuchElementException {
        needProgram(length);
        if (place < 0 || place >= length) {
            throw new NoSuchElementException("there is no such place");
        }
        straight.write(length);
        return straight.outcomeAt(place);
    }

    // ---- fixed point, table, digits ---------------------------------------------------------

    public int fixed() throws UnsupportedOperationException {
        if (!fixedPoint.canTake(typed)) {
            throw new UnsupportedOperationException("what is typed is no row for fixed point");
        }
        return fixedPoint.make(typed);
    }

    public int fixedAt(int place, boolean isImaginary) throws NoSuchElementException {
        Row parts = isImaginary ? fixedPoint.imaginaries : fixedPoint.reals;
        needPlace(parts, place);
        return parts.at(place);
    }

    public int table(int place, boolean isSine) throws IllegalArgumentException {
        if (place < 0 || place >= LONGEST) {
            throw new IllegalArgumentException("there is no such place");
        }
        return isSine ? fixedPoint.sineAt(place) : fixedPoint.cosineAt(place);
    }

    public int digit(boolean isSecond, int digit) throws IllegalArgumentException, IllegalStateException {
        if (digit < 0 || digit > 9) {
            throw new IllegalArgumentException("that is no digit");
        }
        Row digits = isSecond ? longProduct.second : longProduct.first;
        if (!digits.add(digit)) {
            throw new IllegalStateException("there are 24 digits");
        }
        return digits.size();
    }

    public int wipeDigits() {
        return longProduct.first.clear() + longProduct.second.clear();
    }

    public int multiply() throws UnsupportedOperationException {
        if (longProduct.first.size() == 0 || longProduct.second.size() == 0) {
            throw new UnsupportedOperationException("a row of digits is empty");
        }
        return longProduct.make(grounds);
    }

    public int product(int place) throws NoSuchElementException {
        needPlace(longProduct.digits, place);
        return longProduct.digits.at(place);
    }

    public int joined() throws NoSuchElementException {
        needPlace(longProduct.digits, 0);
        return longProduct.countGrounds();
    }

    // ---- places and sums --------------------------------------------------------------------

    public int turned(int place, int length) throws IllegalArgumentException {
        if (length < 2 || length > LONGEST || !Rules.isPowerOfTwo(length)) {
            throw new IllegalArgumentException("there is no such length");
        }
        if (place < 0 || place >= length) {
            throw new IllegalArgumentException("there is no such place");
        }
        return FixedPoint.turnBits(place, length);
    }

    public int cycles(int rows, int columns) throws IllegalArgumentException {
        needLength(rows, 1);
        needLength(columns, 1);
        if (rows * columns > LONGEST) {
            throw new IllegalArgumentException("there would be more than 64 numbers");
        }
        return countCycles(rows, columns);
    }

    public long checksum() {
        long sum = 7;
        for (int i = 0; i < made.size(); i++) {
            sum = 31 * sum + made.at(i);
        }
        return sum;
    }

    public float zeroShare() throws NoSuchElementException {
        needPlace(made, 0);
        int zeros = 0;
        for (int i = 0; i < made.size(); i++) {
            if (made.at(i) == 0) {
                zeros++;
            }
        }
        return (float) zeros / (float) made.size();
    }

    public double meanCost() {
        int sum = 0;
        int count = 0;
        for (Plan plan : plans) {
            if (plan != null) {
                sum += plan.cost();
                count++;
            }
        }
        return count == 0 ? 0.0 : (double) sum / (double) count;
    }

    public boolean isSound() {
        for (Plan plan : plans) {
            if (plan != null && !(isCountedRight(plan) && isMadeRight(plan))) {
                return false;
            }
        }
        return measures.areInOrder();
    }

    // ---- what calls ask for -----------------------------------------------------------------

    private Ground groundOf(int ground) {
        if (ground < 0 || ground >= grounds.length) {
            throw new IllegalArgumentException("there is no such ground");
        }
        return grounds[ground];
    }

    private static void needLength(int length, int least) {
        if (length < least || length > LONGEST) {
            throw new IllegalArgumentException("the number is out of range");
        }
    }

    private static void needProgram(int length) {
        if (length < 1 || length > StraightProgram.LONGEST_ROW) {
            throw new IllegalArgumentException("there is no program of such a length");
        }
    }

    private static void needRule(int length, char rule, int a) {
        needLength(length, 2);
        if (!Rules.canHave(length, rule, a)) {
            throw new IllegalArgumentException("there is no such rule, or it cannot have them");
        }
    }

    private static void needHeld(Ground ground, int length) {
        if (!ground.holds(length)) {
            throw new UnsupportedOperationException("the length does not fit the ground");
        }
    }

    private static void needPlace(Row row, int place) {
        if (!row.has(place)) {
            throw new NoSuchElementException("there is no such place");
        }
    }

    private void needTyped() {
        if (typed.size() == 0) {
            throw new UnsupportedOperationException("nothing is typed");
        }
    }

    /** A rule without such a part has the length 0 for it, which needs nothing. */
    private void needPart(int length) {
        if (length > LONGEST_PLAIN && (length > LONGEST || plans[length] == null)) {
            throw new UnsupportedOperationException("a part has no plan");
        }
    }

    private Plan keptPlan(int length) {
        if (length < 1 || length > LONGEST || plans[length] == null) {
            throw new NoSuchElementException("no plan is kept");
        }
        return plans[length];
    }

    private Plan partOf(int length) {
        if (length < 1 || length > LONGEST) {
            return null;
        }
        Plan plan = plans[length];
        return plan == null ? new Plan(length, 'd', 0, null, null) : plan;
    }

    private int keepBest(int ground, int length, Measures told) {
        Ground place = groundOf(ground);
        needLength(length, 2);
        needHeld(place, length);
        planner.find(place, length, told);
        plans[length] = planner.foundPlan(length);
        return planner.foundCost(length);
    }

    // ---- walks through trees ----------------------------------------------------------------

    /** Something of the node of an index, or -1 if there is no such node. */
    private static int nodeFigure(Plan plan, int index, char what) {
        Plan at = plan;
        int left = index;
        int level = 0;
        while (at != null && left > 0 && level < LEVELS) {
            left--;
            int inFirst = at.first == null ? 0 : at.first.size;
            if (left < inFirst) {
                at = at.first;
            } else {
                left -= inFirst;
                at = at.second;
            }
            level++;
        }
        if (at == null || left != 0) {
            return -1;
        }
        if (what == 'n') {
            return at.length;
        }
        if (what == 'r') {
            return at.rule;
        }
        return what == 'a' ? at.a : level;
    }

    private static boolean isFitting(Ground ground, Plan plan) {
        for (int i = 0; i < plan.size; i++) {
            if (!ground.holds(nodeFigure(plan, i, 'n'))) {
                return false;
            }
        }
        return true;
    }

    /** Counts from the root down, by how often each node is done, as the figures were made from the parts up. */
    private static boolean isCountedRight(Plan plan) {
        return plan.products == countWork(plan, 1, true, 0)
            && plan.sums == countWork(plan, 1, false, 0)
            && plan.depth == countDepth(plan, 0)
            && plan.size == countNodes(plan, 0);
    }

    private static int countWork(Plan plan, int times, boolean isProducts, int level) {
        if (plan == null || level > LEVELS) {
            return 0;
        }
        int own = isProducts ? Rules.ownProducts(plan.length, plan.rule, plan.a) : Rules.ownSums(plan.length, plan.rule);
        return times * own
            + countWork(plan.first, times * Rules.timesFirst(plan.rule, plan.a), isProducts, level + 1)
            + countWork(plan.second, times * Rules.timesSecond(plan.length, plan.rule, plan.a), isProducts, level + 1);
    }

    private static int countDepth(Plan plan, int level) {
        if (plan == null || level > LEVELS) {
            return 0;
        }
        return Rules.ownDepth(plan.length, plan.rule)
            + Rules.waitsFirst(plan.rule) * countDepth(plan.first, level + 1)
            + countDepth(plan.second, level + 1);
    }

    private static int countNodes(Plan plan, int level) {
        if (plan == null || level > LEVELS) {
            return 0;
        }
        return 1 + countNodes(plan.first, level + 1) + countNodes(plan.second, level + 1);
    }

    private boolean isMadeRight(Plan plan) {
        probe.clear();
        for (int i = 1; i <= plan.length; i++) {
            probe.add(i);
        }
        for (Ground ground : grounds) {
            if (isFitting(ground, plan)) {
                transformer.make(ground, plan, probe, false, probeMade);
                transformer.makePlainly(ground, probe, false, probePlain);
                boolean isPlainSum = ground.isSameRow(probeMade, probePlain);
                transformer.make(ground, plan, probeMade, true, probePlain);
                if (!isPlainSum || !ground.isSameRow(probePlain, probe)) {
                    return false;
                }
            }
        }
        return true;
    }

    /** The numbers that were seen are the bits of one long, as there are 64 at most. */
    private static int countCycles(int rows, int columns) {
        int most = rows * columns;
        long seen = 0;
        int count = 0;
        for (int start = 0; start < most; start++) {
            if ((seen >>> start & 1L) == 0L) {
                count++;
            }
            int at = start;
            for (int i = 0; i < most && (seen >>> at & 1L) == 0L; i++) {
                seen |= 1L << at;
                at = columns < 1 ? at : at % columns * rows + at / columns;
            }
        }
        return count;
    }

    // ---- rows, grounds ----------------------------------------------------------------------

    /** Numbers of which so many are there; beyond them it reads 0, and it takes no more than it has room for. */
    private static final class Row {
        private final int[] numbers;
        private int count;

        Row(int most) {
            numbers = new int[most < 0 ? 0 : most];
        }

        int size() {
            return count;
        }

        boolean has(int place) {
            return place >= 0 && place < count;
        }

        int at(int place) {
            return has(place) && place < numbers.length ? numbers[place] : 0;
        }

        void put(int place, int number) {
            if (has(place) && place < numbers.length) {
                numbers[place] = number;
            }
        }

        boolean add(int number) {
            if (count < 0 || count >= numbers.length) {
                return false;
            }
            numbers[count] = number;
            count++;
            return true;
        }

        int clear() {
            int was = count;
            count = 0;
            return was;
        }

        void shorten(int length) {
            count = length < 0 || length > count ? count : length;
        }

        void copyFrom(Row other) {
            count = 0;
            for (int i = 0; i < other.count; i++) {
                add(other.at(i));
            }
        }
    }

    /** A prime with its root. */
    private static final class Ground {
        final int prime;
        final int root;

        Ground(int prime, int root) {
            this.prime = prime;
            this.root = root;
        }

        int reduced(long number) {
            if (prime < 2) {
                return 0;
            }
            int rest = (int) (number % prime);
            return rest < 0 ? rest + prime : rest;
        }

        boolean holds(int length) {
            return length > 0 && (prime - 1) % length == 0;
        }

        /** Of a base and an exponent that are not less than 0. */
        int power(int base, int exponent) {
            if (prime < 2) {
                return 0;
            }
            long power = 1;
            long square = base % prime;
            for (int left = exponent; left > 0; left >>= 1) {
                if ((left & 1) == 1) {
                    power = power * square % prime;
                }
                square = square * square % prime;
            }
            return (int) power;
        }

        int inverse(int number) {
            return power(number, prime - 2);
        }

        /** The inverse is the root to the power of the rest of the whole turn. */
        int unitOf(int length, boolean isBack) {
            if (length < 1) {
                return 1;
            }
            int share = (prime - 1) / length;
            return power(root, isBack ? prime - 1 - share : share);
        }

        /** What stands at k when both rows, with zeros up to the length, go around with each other. */
        int ringSum(Row left, Row right, int length, int k) {
            long sum = 0;
            for (int i = 0; i < length; i++) {
                int other = k - i < 0 ? k - i + length : k - i;
                sum += (long) reduced(left.at(i)) * reduced(right.at(other));
            }
            return reduced(sum);
        }

        boolean isSameRow(Row one, Row other) {
            if (one.size() != other.size()) {
                return false;
            }
            for (int i = 0; i < one.size(); i++) {
                if (reduced(one.at(i)) != reduced(other.at(i))) {
                    return false;
                }
            }
            return true;
        }
    }

    // ---- plans ------------------------------------------------------------------------------

    /** What the rules ask of a length, and what they cost. */
    private static final class Rules {
        static boolean hasA(char rule) {
            return rule == 'c' || rule == 'g';
        }

        static int ownA(char rule, int a) {
            return hasA(rule) ? a : 0;
        }

        static boolean canHave(int length, char rule, int a) {
            switch (rule) {
                case 'd':
                    return length >= 2 && length <= LONGEST_PLAIN;
                case 'c':
                    return isSplit(length, a);
                case 'g':
                    return isSplit(length, a) && !haveCommonDivisor(a, length / a);
                case 'r':
                    return length >= 3 && isPrime(length);
                case 'b':
                    return length >= 2 && isPowerOfTwo(length);
                default:
                    return false;
            }
        }

        private static boolean isSplit(int length, int a) {
            return a >= 2 && length % a == 0 && length / a >= 2;
        }

        private static boolean haveCommonDivisor(int a, int b) {
            for (int divisor = 2; divisor <= a && divisor <= b; divisor++) {
                if (a % divisor == 0 && b % divisor == 0) {
                    return true;
                }
            }
            return false;
        }

        private static boolean isPrime(int length) {
            for (int divisor = 2; divisor < length; divisor++) {
                if (length % divisor == 0) {
                    return false;
                }
            }
            return length >= 2;
        }

        static boolean isPowerOfTwo(int length) {
            return length > 0 && (length & (length - 1)) == 0;
        }

        /** The length of the first part, 0 without one. */
        static int firstLength(int length, char rule, int a) {
            if (hasA(rule)) {
                return a == 0 ? 0 : length / a;
            }
            if (rule == 'r') {
                return length - 1;
            }
            return rule == 'b' ? length / 2 : 0;
        }

        /** The length of the second part, 0 without one. */
        static int secondLength(char rule, int a) {
            return hasA(rule) ? a : 0;
        }

        /** How often the first part is done. */
        static int timesFirst(char rule, int a) {
            if (hasA(rule)) {
                return a;
            }
            if (rule == 'r') {
                return 3;
            }
            return rule == 'b' ? 2 : 0;
        }

        /** How often the second part is done. */
        static int timesSecond(int length, char rule, int a) {
            return hasA(rule) && a != 0 ? length / a : 0;
        }

        /** How often the depth of the first part is waited for. */
        static int waitsFirst(char rule) {
            return rule == 'r' ? 2 : 1;
        }

        static int ownProducts(int length, char rule, int a) {
            switch (rule) {
                case 'd':
                    return length * length;
                case 'c':
                    return a == 0 ? 0 : (a - 1) * (length / a - 1);
                case 'r':
                    return length - 1;
                case 'b':
                    return length / 2 - 1;
                default:
                    return 0;
            }
        }

        static int ownSums(int length, char rule) {
            switch (rule) {
                case 'd':
                    return length * (length - 1);
                case 'r':
                    return 2 * (length - 1);
                case 'b':
                    return length;
                default:
                    return 0;
            }
        }

        static int ownDepth(int length, char rule) {
            switch (rule) {
                case 'd':
                    return length;
                case 'c':
                    return 1;
                case 'r':
                case 'b':
                    return 2;
                default:
                    return 0;
            }
        }
    }

    /** A tree of nodes. None of them is ever changed, so that trees may share their parts. */
    private static final class Plan {
        final int length;
        final char rule;
        final int a;
        final Plan first;
        final Plan second;
        final int products;
        final int sums;
        final int depth;
        final int size;

        Plan(int length, char rule, int a, Plan first, Plan second) {
            this.length = length;
            this.rule = rule;
            this.a = a;
            this.first = first;
            this.second = second;
            int allProducts = Rules.ownProducts(length, rule, a);
            int allSums = Rules.ownSums(length, rule);
            int wholeDepth = Rules.ownDepth(length, rule);
            int allNodes = 1;
            if (first != null) {
                int times = Rules.timesFirst(rule, a);
                allProducts += times * first.products;
                allSums += times * first.sums;
                wholeDepth += Rules.waitsFirst(rule) * first.depth;
                allNodes += first.size;
            }
            if (second != null) {
                int times = Rules.timesSecond(length, rule, a);
                allProducts += times * second.products;
                allSums += times * second.sums;
                wholeDepth += second.depth;
                allNodes += second.size;
            }
            products = allProducts;
            sums = allSums;
            depth = wholeDepth;
            size = allNodes;
        }

        int cost() {
            return 3 * products + sums;
        }
    }

    /** Finds the cheapest plans of a ground, the shorter lengths first, and counts all plans. */
    private static final class Planner {
        private static final char[] RULES = {'d', 'c', 'g', 'r', 'b'};

        private final Plan[] found = new Plan[LONGEST + 1];
        private final int[] costs = new int[LONGEST + 1];
        private final long[] trees = new long[LONGEST + 1];
        private char bestRule;
        private int bestA;
        private int bestCost;

        Planner() {
            found[1] = new Plan(1, '1', 0, null, null);
        }

        Plan foundPlan(int length) {
            return isIn(length) ? found[length] : null;
        }

        int foundCost(int length) {
            return isIn(length) ? costs[length] : 0;
        }

        /** Without measures, the costs are the proved ones. */
        void find(Ground ground, int length, Measures measures) {
            for (int n = 2; n <= length && n <= LONGEST; n++) {
                found[n] = null;
                costs[n] = 0;
                if (ground.holds(n)) {
                    findOne(n, measures);
                }
            }
        }

        private void findOne(int length, Measures measures) {
            bestCost = -1;
            for (char rule : RULES) {
                int mostA = Rules.hasA(rule) ? length / 2 : 0;
                for (int a = Rules.hasA(rule) ? 2 : 0; a <= mostA; a++) {
                    if (Rules.canHave(length, rule, a) && hasParts(length, rule, a)) {
                        consider(length, rule, a, measures);
                    }
                }
            }
            if (bestCost >= 0 && isIn(length)) {
                Plan first = foundPlan(Rules.firstLength(length, bestRule, bestA));
                Plan second = foundPlan(Rules.secondLength(bestRule, bestA));
                found[length] = new Plan(length, bestRule, bestA, first, second);
                costs[length] = bestCost;
            }
        }

        private boolean hasParts(int length, char rule, int a) {
            int first = Rules.firstLength(length, rule, a);
            int second = Rules.secondLength(rule, a);
            return (first == 0 || foundPlan(first) != null) && (second == 0 || foundPlan(second) != null);
        }

        private void consider(int length, char rule, int a, Measures measures) {
            int cost = measures == null ? -1 : measures.freshCost(length, rule, a);
            if (cost < 0) {
                cost = 3 * Rules.ownProducts(length, rule, a) + Rules.ownSums(length, rule)
                    + Rules.timesFirst(rule, a) * foundCost(Rules.firstLength(length, rule, a))
                    + Rules.timesSecond(length, rule, a) * foundCost(Rules.secondLength(rule, a));
            }
            if (bestCost < 0 || cost < bestCost) {
                bestRule = rule;
                bestA = a;
                bestCost = cost;
            }
        }

        long countTrees(Ground ground, int length) {
            trees[1] = 1;
            for (int n = 2; n <= length && n <= LONGEST; n++) {
                trees[n] = ground.holds(n) ? countTreesOf(n) : 0;
            }
            return treesAt(length);
        }

        private long countTreesOf(int length) {
            long sum = 0;
            for (char rule : RULES) {
                int mostA = Rules.hasA(rule) ? length / 2 : 0;
                for (int a = Rules.hasA(rule) ? 2 : 0; a <= mostA; a++) {
                    if (Rules.canHave(length, rule, a)) {
                        sum += treesAt(Rules.firstLength(length, rule, a)) * treesAt(Rules.secondLength(rule, a));
                    }
                }
            }
            return sum;
        }

        /** A part that a rule does not have leaves the product as it is. */
        private long treesAt(int length) {
            if (length == 0) {
                return 1;
            }
            return isIn(length) ? trees[length] : 0;
        }

        private static boolean isIn(int length) {
            return length >= 1 && length <= LONGEST;
        }
    }

    /** Costs that were told, the one told first in front, each with the count of searches at its telling. */
    private static final class Measures {
        private static final int MOST = 20;
        private static final int FRESH_SEARCHES = 4;

        private final int[] lengths = new int[MOST];
        private final char[] rules = new char[MOST];
        private final int[] as = new int[MOST];
        private final int[] costs = new int[MOST];
        private final int[] toldAt = new int[MOST];
        private int count;
        private int searches;

        int tell(int length, char rule, int a, int cost) {
            int old = placeOf(length, rule, a);
            if (old < 0 && count >= MOST) {
                old = 0;
            }
            if (old >= 0) {
                remove(old);
            }
            if (count >= 0 && count < MOST) {
                lengths[count] = length;
                rules[count] = rule;
                as[count] = a;
                costs[count] = cost;
                toldAt[count] = searches;
                count++;
            }
            return count;
        }

        private void remove(int place) {
            for (int i = place; i >= 0 && i + 1 < count && i + 1 < MOST; i++) {
                lengths[i] = lengths[i + 1];
                rules[i] = rules[i + 1];
                as[i] = as[i + 1];
                costs[i] = costs[i + 1];
                toldAt[i] = toldAt[i + 1];
            }
            count--;
        }

        private int placeOf(int length, char rule, int a) {
            for (int i = 0; i < count && i < MOST; i++) {
                if (isFor(i, length, rule, a)) {
                    return i;
                }
            }
            return -1;
        }

        private boolean isFor(int place, int length, char rule, int a) {
            return lengths[place] == length && rules[place] == rule && as[place] == a;
        }

        private boolean isFresh(int place) {
            return searches - toldAt[place] < FRESH_SEARCHES;
        }

        /** The fresh measure for these, or -1 without one. */
        int freshCost(int length, char rule, int a) {
            int place = placeOf(length, rule, a);
            return place >= 0 && isFresh(place) ? costs[place] : -1;
        }

        int countFresh() {
            int freshOnes = 0;
            for (int i = 0; i < count && i < MOST; i++) {
                if (isFresh(i)) {
                    freshOnes++;
                }
            }
            return freshOnes;
        }

        void countSearch() {
            searches++;
        }

        boolean areInOrder() {
            if (count < 0 || count > MOST) {
                return false;
            }
            for (int i = 0; i < count; i++) {
                if (placeOf(lengths[i], rules[i], as[i]) != i) {
                    return false;
                }
            }
            return true;
        }
    }

    // ---- transforms -------------------------------------------------------------------------

    /** Makes sums modulo a prime. Each level of a tree has a row of its own, and one aside, for what its parts make. */
    private static final class Transformer {
        private final int[][] rows = new int[LEVELS][LONGEST];
        private final int[][] asides = new int[LEVELS][LONGEST];

        void make(Ground ground, Plan plan, Row from, boolean isBack, Row to) {
            takeIn(ground, from);
            turn(ground, plan, isBack, 0);
            if (isBack) {
                divide(ground, rows[0], plan.length);
            }
            giveOut(from.size(), to);
        }

        void makePlainly(Ground ground, Row from, boolean isBack, Row to) {
            takeIn(ground, from);
            turnPlainly(ground, from.size(), isBack, 0);
            if (isBack) {
                divide(ground, rows[0], from.size());
            }
            giveOut(from.size(), to);
        }

        void makeGrid(Ground ground, Row from, int gridRows, Row to) {
            if (gridRows < 1 || gridRows > LONGEST) {
                return;
            }
            takeIn(ground, from);
            int columns = from.size() / gridRows;
            for (int row = 0; row < gridRows; row++) {
                lift(rows[0], row * columns, 1, columns, rows[1]);
                turnPlainly(ground, columns, false, 1);
                lower(rows[1], columns, rows[0], row * columns, 1);
            }
            for (int column = 0; column < columns; column++) {
                lift(rows[0], column, columns, gridRows, rows[1]);
                turnPlainly(ground, gridRows, false, 1);
                lower(rows[1], gridRows, rows[0], column, columns);
            }
            giveOut(from.size(), to);
        }

        private void takeIn(Ground ground, Row from) {
            for (int i = 0; i < LONGEST; i++) {
                rows[0][i] = ground.reduced(from.at(i));
            }
        }

        private void giveOut(int length, Row to) {
            to.clear();
            for (int i = 0; i < length && i < LONGEST; i++) {
                to.add(rows[0][i]);
            }
        }

        private static void divide(Ground ground, int[] row, int length) {
            int factor = ground.inverse(length);
            for (int i = 0; i < length && i < row.length; i++) {
                row[i] = ground.reduced((long) row[i] * factor);
            }
        }

        /** Copies every so manieth number of a row to the front of another one. */
        private static void lift(int[] from, int start, int stride, int length, int[] to) {
            for (int i = 0; i < length && i < to.length; i++) {
                int place = start + stride * i;
                to[i] = place >= 0 && place < from.length ? from[place] : 0;
            }
        }

        /** Copies the front of a row to every so manieth place of another one. */
        private static void lower(int[] from, int length, int[] to, int start, int stride) {
            for (int i = 0; i < length && i < from.length; i++) {
                int place = start + stride * i;
                if (place >= 0 && place < to.length) {
                    to[place] = from[i];
                }
            }
        }

        /** Turns the row of a level by a plan, in place, without the division of the one back. */
        private void turn(Ground ground, Plan plan, boolean isBack, int level) {
            if (plan == null || plan.length > LONGEST || level < 0 || level + 1 >= LEVELS) {
                return;
            }
            switch (plan.rule) {
                case 'd':
                    turnPlainly(ground, plan.length, isBack, level);
                    break;
                case 'c':
                case 'g':
                    turnSplit(ground, plan, isBack, level);
                    break;
                case 'r':
                    turnRing(ground, plan, isBack, level);
                    break;
                case 'b':
                    turnHalves(ground, plan, isBack, level);
                    break;
                default:
                    break;
            }
        }

        private void turnPlainly(Ground ground, int length, boolean isBack, int level) {
            if (length > LONGEST || level < 0 || level >= LEVELS) {
                return;
            }
            int[] here = rows[level];
            int[] aside = asides[level];
            int unit = ground.unitOf(length, isBack);
            int factor = 1;
            for (int k = 0; k < length; k++) {
                aside[k] = plainSum(ground, here, length, factor);
                factor = ground.reduced((long) factor * unit);
            }
            lift(aside, 0, 1, length, here);
        }

        private static int plainSum(Ground ground, int[] row, int length, int factor) {
            long sum = 0;
            int power = 1;
            for (int i = 0; i < length && i < row.length; i++) {
                sum += (long) row[i] * power;
                power = ground.reduced((long) power * factor);
            }
            return ground.reduced(sum);
        }

        private void turnSplit(Ground ground, Plan plan, boolean isBack, int level) {
            int a = plan.a;
            if (a < 2 || level < 0 || level + 1 >= LEVELS) {
                return;
            }
            int b = plan.length / a;
            boolean isCoprime = plan.rule == 'g';
            int[] aside = asides[level];
            int[] below = rows[level + 1];
            layInRows(rows[level], a, b, isCoprime, aside);
            for (int row = 0; row < a; row++) {
                lift(aside, row * b, 1, b, below);
                turn(ground, plan.first, isBack, level + 1);
                lower(below, b, aside, row * b, 1);
            }
            if (!isCoprime) {
                multiplyByPowers(ground, aside, a, b, isBack);
            }
            for (int column = 0; column < b; column++) {
                lift(aside, column, b, a, below);
                turn(ground, plan.second, isBack, level + 1);
                layFromColumn(below, column, a, b, isCoprime, rows[level]);
            }
        }

        /** Without a common divisor, a place is told by what it is modulo a and modulo b, so that no products are needed. */
        private static void layInRows(int[] from, int a, int b, boolean isCoprime, int[] to) {
            if (a < 1 || b < 1) {
                return;
            }
            for (int i = 0; i < a * b && i < from.length; i++) {
                int place = i % a * b + (isCoprime ? i % b : i / a);
                if (place < to.length) {
                    to[place] = from[i];
                }
            }
        }

        private static void layFromColumn(int[] column, int k, int a, int b, boolean isCoprime, int[] to) {
            if (a < 1 || b < 1) {
                return;
            }
            for (int j = 0; j < a && j < column.length; j++) {
                int place = isCoprime ? (j * b + k * a) % (a * b) : k + b * j;
                if (place >= 0 && place < to.length) {
                    to[place] = column[j];
                }
            }
        }

        private static void multiplyByPowers(Ground ground, int[] aside, int a, int b, boolean isBack) {
            int unit = ground.unitOf(a * b, isBack);
            int rowUnit = 1;
            for (int row = 0; row < a; row++) {
                int power = 1;
                for (int k = 0; k < b && row * b + k < aside.length; k++) {
                    int place = row * b + k;
                    aside[place] = ground.reduced((long) aside[place] * power);
                    power = ground.reduced((long) power * rowUnit);
                }
                rowUnit = ground.reduced((long) rowUnit * unit);
            }
        }

        /**
         * In the order of the powers of a generator, the sum of all places but 0 is a ring of the numbers with the
         * units; the ring is made by the part, both ways.
         */
        private void turnRing(Ground ground, Plan plan, boolean isBack, int level) {
            int length = plan.length;
            int around = length - 1;
            if (around < 2 || length > LONGEST || level < 0 || level + 1 >= LEVELS) {
                return;
            }
            int generator = generatorOf(length);
            int[] here = rows[level];
            int[] aside = asides[level];
            int[] below = rows[level + 1];
            layByPowers(here, generator, length, below);
            turn(ground, plan.first, false, level + 1);
            lift(below, 0, 1, around, aside);
            layUnits(ground, generator, length, isBack, below);
            turn(ground, plan.first, false, level + 1);
            for (int i = 0; i < around; i++) {
                below[i] = ground.reduced((long) below[i] * aside[i]);
            }
            turn(ground, plan.first, true, level + 1);
            divide(ground, below, around);
            layRingOut(ground, below, generator, length, here);
        }

        /** The least number whose powers are all numbers from 1 to the prime less 1. */
        private static int generatorOf(int prime) {
            for (int base = 2; base < prime; base++) {
                int power = base;
                int order = 1;
                while (power != 1 && order < prime) {
                    power = power * base % prime;
                    order++;
                }
                if (order == prime - 1) {
                    return base;
                }
            }
            return 1;
        }

        private static void layByPowers(int[] from, int generator, int prime, int[] to) {
            int place = 1;
            for (int i = 0; i < prime - 1 && i < to.length; i++) {
                to[i] = place < from.length ? from[place] : 0;
                place = place * generator % prime;
            }
        }

        /** At i stands the unit to the power of the generator's inverse to the power of i. */
        private static void layUnits(Ground ground, int generator, int prime, boolean isBack, int[] to) {
            int unit = ground.unitOf(prime, isBack);
            int power = 1;
            for (int i = 0; i < prime - 1; i++) {
                int place = (prime - 1 - i) % (prime - 1);
                if (place < to.length) {
                    to[place] = ground.power(unit, power);
                }
                power = power * generator % prime;
            }
        }

        private static void layRingOut(Ground ground, int[] sums, int generator, int prime, int[] to) {
            long all = 0;
            for (int i = 0; i < prime && i < to.length; i++) {
                all += to[i];
            }
            int first = to[0];
            int place = 1;
            for (int i = 0; i < prime - 1; i++) {
                int from = (prime - 1 - i) % (prime - 1);
                if (place < to.length && from < sums.length) {
                    to[place] = ground.reduced((long) first + sums[from]);
                }
                place = place * generator % prime;
            }
            to[0] = ground.reduced(all);
        }

        private void turnHalves(Ground ground, Plan plan, boolean isBack, int level) {
            if (level < 0 || level + 1 >= LEVELS || plan.length > LONGEST) {
                return;
            }
            int half = plan.length / 2;
            int[] here = rows[level];
            int[] aside = asides[level];
            int[] below = rows[level + 1];
            lift(here, 0, 2, half, below);
            turn(ground, plan.first, isBack, level + 1);
            lift(below, 0, 1, half, aside);
            lift(here, 1, 2, half, below);
            turn(ground, plan.first, isBack, level + 1);
            int unit = ground.unitOf(plan.length, isBack);
            int power = 1;
            for (int k = 0; k < half; k++) {
                long product = (long) below[k] * power;
                here[k] = ground.reduced(aside[k] + product);
                here[k + half] = ground.reduced(aside[k] - product);
                power = ground.reduced((long) power * unit);
            }
        }
    }

    // ---- programs ---------------------------------------------------------------------------

    /** The straight program of the length that was written last. */
    private static final class StraightProgram {
        static final int LONGEST_ROW = 8;
        private static final int MOST_STEPS = 128;

        private final char[] signs = new char[MOST_STEPS];
        private final int[] lefts = new int[MOST_STEPS];
        private final int[] rights = new int[MOST_STEPS];
        private final int[] outcomes = new int[LONGEST_ROW];
        private int length;
        private int count;

        int countSteps() {
            return count;
        }

        int partOfStep(int index, char what) {
            if (index < 0 || index >= MOST_STEPS) {
                return 0;
            }
            if (what == 'o') {
                return signs[index];
            }
            return what == 'l' ? lefts[index] : rights[index];
        }

        int outcomeAt(int place) {
            return place >= 0 && place < LONGEST_ROW ? outcomes[place] : 0;
        }

        /** A program that is written already is left, as it would be the same. */
        void write(int newLength) {
            if (newLength < 1 || newLength > LONGEST_ROW || newLength == length) {
                return;
            }
            length = newLength;
            count = 0;
            for (int k = 0; k < newLength; k++) {
                outcomes[k] = writeSum(newLength, k);
            }
        }

        private int writeSum(int n, int k) {
            int sum = 0;
            for (int i = 1; n > 0 && i < n; i++) {
                int power = i * k % n;
                if (power == 0) {
                    sum = stepFor('+', sum, i);
                } else if (2 * power == n) {
                    sum = stepFor('-', sum, i);
                } else {
                    sum = stepFor('+', sum, stepFor('*', i, power));
                }
            }
            return sum;
        }

        /** The number that such a step makes; only if there is none yet, it is made. */
        private int stepFor(char sign, int left, int right) {
            for (int i = 0; i < count && i < MOST_STEPS; i++) {
                if (signs[i] == sign && lefts[i] == left && rights[i] == right) {
                    return length + i;
                }
            }
            if (count >= 0 && count < MOST_STEPS) {
                signs[count] = sign;
                lefts[count] = left;
                rights[count] = right;
                count++;
            }
            return length + count - 1;
        }
    }

    // ---- fixed point ------------------------------------------------------------------------

    /** Sums of pairs in fixed point, and the table that they need. */
    private static final class FixedPoint {
        private static final int ONE = 16384;
        private static final int QUARTER = 16;
        private static final int HALF = 32;
        private static final int MOST_PAIRS = 32;

        final Row reals = new Row(MOST_PAIRS);
        final Row imaginaries = new Row(MOST_PAIRS);
        private final int[] cosines = new int[LONGEST];
        private final int[] sines = new int[LONGEST];

        /** Each doubling of the parts needs the cosines of half a turn of the one before, which stand in the same row. */
        FixedPoint() {
            cosines[0] = ONE;
            cosines[1] = 0;
            cosines[2] = -ONE;
            for (int quarter = 2; quarter <= QUARTER; quarter *= 2) {
                for (int k = 0; k <= quarter; k++) {
                    int cosine = cosines[k];
                    cosines[k] = nearestRoot(ONE * (ONE / 2) + ONE / 2 * cosine);
                    sines[k] = nearestRoot(ONE * (ONE / 2) - ONE / 2 * cosine);
                }
                for (int k = 0; k < quarter; k++) {
                    cosines[2 * quarter - k] = -cosines[k];
                    sines[2 * quarter - k] = sines[k];
                }
            }
            for (int k = HALF + 1; k < LONGEST; k++) {
                cosines[k] = -cosines[k - HALF];
                sines[k] = -sines[k - HALF];
            }
        }

        int cosineAt(int place) {
            return place >= 0 && place < cosines.length ? cosines[place] : 0;
        }

        int sineAt(int place) {
            return place >= 0 && place < sines.length ? sines[place] : 0;
        }

        /** No whole number's root lies in the middle of two, so that the nearest one is plain. */
        private static int nearestRoot(int square) {
            int root = 0;
            for (int bit = ONE; bit > 0; bit >>= 1) {
                int higher = root + bit;
                if ((long) higher * higher <= square) {
                    root = higher;
                }
            }
            return square - root * root > root ? root + 1 : root;
        }

        static int turnBits(int place, int length) {
            int back = 0;
            int left = place;
            for (int bit = 1; bit < length && bit < LONGEST; bit <<= 1) {
                back = back << 1 | left & 1;
                left >>= 1;
            }
            return back;
        }

        boolean canTake(Row row) {
            int pairs = row.size() / 2;
            if (row.size() % 2 != 0 || pairs < 2 || pairs > MOST_PAIRS || !Rules.isPowerOfTwo(pairs)) {
                return false;
            }
            for (int i = 0; i < row.size(); i++) {
                if (row.at(i) < -32768 || row.at(i) > 32767) {
                    return false;
                }
            }
            return true;
        }

        /** Returns the scale. */
        int make(Row row) {
            int pairs = row.size() / 2;
            reals.clear();
            imaginaries.clear();
            for (int i = 0; i < pairs; i++) {
                int place = turnBits(i, pairs);
                reals.add(row.at(2 * place));
                imaginaries.add(row.at(2 * place + 1));
            }
            int scale = 0;
            for (int m = 2; m <= pairs && m <= MOST_PAIRS; m *= 2) {
                if (isLoud()) {
                    halveAll();
                    scale++;
                }
                makeLayer(pairs, m);
            }
            return scale;
        }

        private boolean isLoud() {
            for (int i = 0; i < reals.size(); i++) {
                if (Math.abs(reals.at(i)) > 8191 || Math.abs(imaginaries.at(i)) > 8191) {
                    return true;
                }
            }
            return false;
        }

        /** A shift goes down to the next whole number, so that with one half more it goes to the nearest one. */
        private void halveAll() {
            for (int i = 0; i < reals.size(); i++) {
                reals.put(i, reals.at(i) + 1 >> 1);
                imaginaries.put(i, imaginaries.at(i) + 1 >> 1);
            }
        }

        private void makeLayer(int pairs, int m) {
            if (m < 2) {
                return;
            }
            int half = m / 2;
            for (int block = 0; block + m <= pairs; block += m) {
                for (int k = 0; k < half; k++) {
                    makePair(block + k, block + k + half, LONGEST / m * k);
                }
            }
        }

        private void makePair(int p, int q, int turn) {
            long cosine = cosineAt(turn);
            long sine = sineAt(turn);
            int real = dividedByOne(reals.at(q) * cosine + imaginaries.at(q) * sine);
            int imaginary = dividedByOne(imaginaries.at(q) * cosine - reals.at(q) * sine);
            reals.put(q, reals.at(p) - real);
            imaginaries.put(q, imaginaries.at(p) - imaginary);
            reals.put(p, reals.at(p) + real);
            imaginaries.put(p, imaginaries.at(p) + imaginary);
        }

        private static int dividedByOne(long number) {
            return (int) (number + ONE / 2 >> 14);
        }
    }

    // ---- products of digits -----------------------------------------------------------------

    /** Two rows of digits and their last product. */
    private static final class LongProduct {
        private static final int MOST_DIGITS = 24;
        private static final int FIRST_GROUND = 2;

        final Row first = new Row(MOST_DIGITS);
        final Row second = new Row(MOST_DIGITS);
        final Row digits = new Row(LONGEST);
        private final long[] sums = new long[LONGEST];
        private int groundCount;

        int countGrounds() {
            return groundCount;
        }

        /** Both rows have at least one digit. Returns how many digits the product has. */
        int make(Ground[] grounds) {
            int both = first.size() + second.size();
            int length = 2;
            while (length < both && length < LONGEST) {
                length *= 2;
            }
            // What comes around is at most 81 times the lesser length, which the primes together must be beyond.
            int limit = 81 * Math.min(first.size(), second.size());
            long modulus = 1;
            groundCount = 0;
            for (int i = 0; i < length; i++) {
                sums[i] = 0;
            }
            for (int i = FIRST_GROUND; i < grounds.length && modulus <= limit; i++) {
                join(grounds[i], modulus, length);
                modulus *= grounds[i].prime;
                groundCount++;
            }
            carry(length);
            return digits.size();
        }

        /** Each sum is known modulo the modulus; what of the modulus is to be added makes it right modulo the prime. */
        private void join(Ground ground, long modulus, int length) {
            int inverse = ground.inverse(ground.reduced(modulus));
            for (int k = 0; k < length && k < sums.length; k++) {
                int wanted = ground.ringSum(first, second, length, k);
                int times = ground.reduced((long) ground.reduced(wanted - sums[k]) * inverse);
                sums[k] += modulus * times;
            }
        }

        private void carry(int length) {
            digits.clear();
            long carried = 0;
            int used = 1;
            for (int k = 0; k < length && k < sums.length; k++) {
                long sum = sums[k] + carried;
                int digit = (int) (sum % 10);
                carried = sum / 10;
                digits.add(digit);
                if (digit != 0) {
                    used = k + 1;
                }
            }
            digits.shorten(used);
        }
    }
}
