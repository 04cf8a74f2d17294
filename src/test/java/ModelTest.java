import java.util.Random;

/** Many runs of up to 512 calls each, drawn with fixed seeds, on an object and on the model side by side. */
public final class ModelTest {
    private static final int[] LIMBS = {0, 1, 2, -1, -2, 0x7FFFFFFF, 0x80000000, 0x80000001};
    private static final long[] LONGS = {0, 1, -1, 2, -2, 3, 10, -10, 4294967295L, 4294967296L, -4294967296L,
        2147483648L, Long.MAX_VALUE, Long.MIN_VALUE, 1000000007L};
    private static final int CALLS = 512;
    // checkAll takes five calls for each register, and one turn of a run ten at the most.
    private static final int TURNS_END = CALLS - 24 * 5 - 10;

    private final Due due = new Due("ModelTest");
    private Random random = new Random(0);
    private PackedNumbers x = new PackedNumbers();
    private Model m = new Model();
    private int calls = 0;
    private String run = "";

    public static void main(String[] args) {
        ModelTest test = new ModelTest();
        for (int seed = 1; seed <= 300; seed++) {
            test.start("mixed " + seed, seed);
            test.mixedRun(2 + seed % 23);
        }
        for (int seed = 1; seed <= 60; seed++) {
            test.start("limbs " + seed, seed);
            test.limbRun();
        }
        for (int seed = 1; seed <= 30; seed++) {
            test.start("long " + seed, seed);
            test.longRun();
        }
        for (int steps = 2; steps <= 28000; steps = steps * 3 / 2) {
            test.start("fibonacci " + steps, steps);
            test.fibonacciRun(steps);
        }
        test.due.end();
    }

    private void start(String name, int seed) {
        random = new Random(seed);
        x = new PackedNumbers();
        m = new Model();
        calls = 0;
        run = name;
    }

    private void both(String call, Due.Call one, Due.Call other) {
        calls++;
        String want = Due.outcome(other);
        due.answer(run + ", call " + calls + ", " + call, Due.outcome(one), want);
    }

    /** Random calls on the first few registers, so that the same one is often named twice. */
    private void mixedRun(int registers) {
        while (calls < TURNS_END) {
            int kind = random.nextInt(40);
            if (kind < 20) {
                call(kind, register(registers), register(registers), register(registers), register(registers));
            } else if (kind < 26) {
                grow(random.nextInt(registers), random.nextInt(registers));
            } else if (kind < 36) {
                int[] frequent = {7, 8, 9, 10, 11, 12, 5, 6};
                call(frequent[random.nextInt(frequent.length)], random.nextInt(registers), random.nextInt(registers),
                    random.nextInt(registers), random.nextInt(registers));
            } else {
                multiple(random.nextInt(registers), random.nextInt(registers), random.nextInt(registers));
            }
        }
        checkAll();
    }

    private int register(int registers) {
        int draw = random.nextInt(60);
        return draw == 0 ? -1 : draw == 1 ? 24 : draw == 2 ? Integer.MIN_VALUE : random.nextInt(registers);
    }

    private void call(int kind, int a, int b, int c, int d) {
        boolean away = random.nextBoolean();
        int limb = random.nextBoolean() ? LIMBS[random.nextInt(LIMBS.length)] : random.nextInt();
        long v = random.nextBoolean() ? LONGS[random.nextInt(LONGS.length)] : random.nextLong();
        int k = random.nextInt(random.nextBoolean() ? 4 : 630) - 1;
        int p = random.nextInt(5) == 0 ? limb : 1 + random.nextInt(Integer.MAX_VALUE);
        switch (kind) {
            case 0 -> both("set " + a + " " + v, () -> x.set(a, v), () -> m.set(a, v));
            case 1 -> both("push " + a + " " + limb, () -> x.push(a, limb), () -> m.push(a, limb));
            case 2 -> both("copy " + a + " " + b, () -> x.copy(a, b), () -> m.copy(a, b));
            case 3 -> both("swap " + a + " " + b, () -> x.swap(a, b), () -> m.swap(a, b));
            case 4 -> both("negate " + a, () -> x.negate(a), () -> m.negate(a));
            case 5 -> both("add " + a + " " + b + " " + c, () -> x.add(a, b, c), () -> m.add(a, b, c));
            case 6 -> both("subtract " + a + " " + b + " " + c, () -> x.subtract(a, b, c), () -> m.subtract(a, b, c));
            case 7 -> both("multiply " + a + " " + b + " " + c, () -> x.multiply(a, b, c), () -> m.multiply(a, b, c));
            case 8 -> both("addProduct " + a + " " + b + " " + c + " " + away,
                () -> x.addProduct(a, b, c, away), () -> m.addProduct(a, b, c, away));
            case 9 -> both("divide " + a + " " + b + " " + c + " " + d,
                () -> x.divide(a, b, c, d), () -> m.divide(a, b, c, d));
            case 10 -> both("exact " + a + " " + b + " " + c, () -> x.exact(a, b, c), () -> m.exact(a, b, c));
            case 11 -> both("nearest " + a + " " + b + " " + c, () -> x.nearest(a, b, c), () -> m.nearest(a, b, c));
            case 12 -> both("gcd " + a + " " + b + " " + c, () -> x.gcd(a, b, c), () -> m.gcd(a, b, c));
            case 13 -> both("compare " + a + " " + b, () -> x.compare(a, b), () -> m.compare(a, b));
            case 14 -> both("sign " + a, () -> x.sign(a), () -> m.sign(a));
            case 15 -> both("length " + a, () -> x.length(a), () -> m.length(a));
            case 16 -> both("limb " + a + " " + k, () -> x.limb(a, k), () -> m.limb(a, k));
            case 17 -> both("rest " + a + " " + p, () -> x.rest(a, p), () -> m.rest(a, p));
            case 18 -> both("print " + a, () -> x.print(a), () -> m.print(a));
            default -> both("character " + k, () -> x.character(10 * k + a), () -> m.character(10 * k + a));
        }
    }

    /** Numbers near the greatest length are rare by chance alone. */
    private void grow(int a, int b) {
        both("push " + a, () -> x.push(a, -3), () -> m.push(a, -3));
        both("multiply " + a + " by itself", () -> x.multiply(a, a, a), () -> m.multiply(a, a, a));
        both("addProduct " + b + " " + a + " " + b, () -> x.addProduct(b, a, b, true), () -> m.addProduct(b, a, b, true));
    }

    /** Divisions of which nothing is left, and common divisors, are rare by chance alone. */
    private void multiple(int to, int a, int b) {
        both("multiply " + to + " " + a + " " + b, () -> x.multiply(to, a, b), () -> m.multiply(to, a, b));
        if (random.nextBoolean()) {
            both("exact " + to + " " + to + " " + b, () -> x.exact(to, to, b), () -> m.exact(to, to, b));
        } else {
            both("gcd " + a + " " + to + " " + b, () -> x.gcd(a, to, b), () -> m.gcd(a, to, b));
        }
    }

    /** Limbs at the ends of their range bring out the rare turns of a long division. */
    private void limbRun() {
        while (calls < TURNS_END) {
            int a = random.nextInt(4);
            both("set " + a, () -> x.set(a, 0), () -> m.set(a, 0));
            for (int n = 1 + random.nextInt(7); n > 0; n--) {
                int limb = LIMBS[random.nextInt(LIMBS.length)];
                both("push " + a + " " + limb, () -> x.push(a, limb), () -> m.push(a, limb));
            }
            int kind = 9 + random.nextInt(4);
            call(kind, 4 + random.nextInt(4), 8 + random.nextInt(4), random.nextInt(4), random.nextInt(4));
            call(kind, 4 + random.nextInt(4), 8 + random.nextInt(4), a, random.nextInt(4));
        }
        checkAll();
    }

    /** All registers long, and made anew over and over. */
    private void longRun() {
        both("set 0", () -> x.set(0, 7), () -> m.set(0, 7));
        for (int i = 0; i < 30; i++) {
            int limb = random.nextInt();
            both("push 0 " + limb, () -> x.push(0, limb), () -> m.push(0, limb));
        }
        both("copy 1 0", () -> x.copy(1, 0), () -> m.copy(1, 0));
        for (int i = 0; i < 4; i++) {
            both("multiply 1 1 1", () -> x.multiply(1, 1, 1), () -> m.multiply(1, 1, 1));
        }
        for (int r = 2; r < 24; r++) {
            int to = r;
            both("addProduct " + to, () -> x.addProduct(to, 1, 0, false), () -> m.addProduct(to, 1, 0, false));
        }
        while (calls < TURNS_END) {
            int[] frequent = {2, 3, 5, 6, 7, 8, 9, 11, 12, 4, 5, 6, 18, 19, 1};
            int kind = frequent[random.nextInt(frequent.length)];
            // Register 0 and 1 stay what they are, so that the others can become long again.
            call(kind, 2 + random.nextInt(22), 2 + random.nextInt(22), random.nextInt(24), random.nextInt(24));
            int to = 2 + random.nextInt(22);
            both("addProduct " + to, () -> x.addProduct(to, 1, 0, false), () -> m.addProduct(to, 1, 0, false));
        }
        checkAll();
    }

    /** Neighbours in Fibonacci's row keep Euclid busy longest. */
    private void fibonacciRun(int steps) {
        both("set 0", () -> x.set(0, 0), () -> m.set(0, 0));
        both("set 1", () -> x.set(1, 1), () -> m.set(1, 1));
        for (int bit = 31 - Integer.numberOfLeadingZeros(steps); bit >= 0; bit--) {
            both("add", () -> x.add(2, 1, 1), () -> m.add(2, 1, 1));
            both("subtract", () -> x.subtract(2, 2, 0), () -> m.subtract(2, 2, 0));
            both("multiply", () -> x.multiply(2, 2, 0), () -> m.multiply(2, 2, 0));
            both("multiply", () -> x.multiply(0, 0, 0), () -> m.multiply(0, 0, 0));
            both("addProduct", () -> x.addProduct(0, 1, 1, false), () -> m.addProduct(0, 1, 1, false));
            both("swap", () -> x.swap(0, 1), () -> m.swap(0, 1));
            both("copy", () -> x.copy(0, 2), () -> m.copy(0, 2));
            if ((steps >> bit & 1) == 1) {
                both("add", () -> x.add(0, 0, 1), () -> m.add(0, 0, 1));
                both("swap", () -> x.swap(0, 1), () -> m.swap(0, 1));
            }
        }
        both("gcd", () -> x.gcd(3, 0, 1), () -> m.gcd(3, 0, 1));
        both("gcd", () -> x.gcd(4, 1, 0), () -> m.gcd(4, 1, 0));
        both("divide", () -> x.divide(5, 6, 1, 0), () -> m.divide(5, 6, 1, 0));
        both("nearest", () -> x.nearest(7, 1, 0), () -> m.nearest(7, 1, 0));
        checkAll();
    }

    private void checkAll() {
        for (int r = 0; r < 24; r++) {
            int a = r;
            both("sign " + a, () -> x.sign(a), () -> m.sign(a));
            both("length " + a, () -> x.length(a), () -> m.length(a));
            for (int p : Make.PRIMES) {
                both("rest " + a + " " + p, () -> x.rest(a, p), () -> m.rest(a, p));
            }
        }
        due.answer(run + " has few enough calls", calls <= CALLS, true);
    }
}
