import java.math.BigInteger;

/** The boundary cases of promises 11 to 14: quotients, what is left of them, common divisors. */
final class DividingBoundaries {
    private static final String INDEX = Run.INDEX;
    private static final String ARGUMENT = Run.ARGUMENT;
    private static final String ARITHMETIC = Run.ARITHMETIC;
    private static final String MOST = Run.MOST;
    private static final String LEAST = Run.LEAST;
    private static final String[] DIVISORS = {"1", "2", "3", "2^31", "2^32-1", "2^32", "2^32+1", "2^63", "2^64-1", "2^64",
        "2^64+1", "2^95+2^64-1", "2^96-2^32", "2^96-1", "2^9984-1", "2^9984", "2^9984+1"};
    private static final int[] ENDS = {0, 1, Integer.MAX_VALUE, Integer.MIN_VALUE, -2, -1};
    private static final String[] NEXT_TO_A_LIMB = {"2^32-1", "2^32", "2^32+1", "2^64-1", "2^64", "2^64+1"};

    private final Due due;

    private DividingBoundaries(Due due) {
        this.due = due;
    }

    static void look(Due due) {
        DividingBoundaries all = new DividingBoundaries(due);
        all.divideSmall();
        all.divideLongest();
        all.divideNextToALimb();
        all.divideLimbsAtTheEnds();
        all.divideRefuses();
        all.exactMakes();
        all.exactNextToALimb();
        all.exactRefuses();
        all.nearestSmall();
        all.nearestTwoAsNear();
        all.nearestLongest();
        all.nearestRefuses();
        all.gcdMakes();
        all.gcdOfManySteps();
        all.gcdRefuses();
    }

    private Run run(String... rows) {
        return new Run(due, rows);
    }

    private static final String DOWN = "a / b rounded down goes to q, what is left of a to r.";

    private void divideSmall() {
        due.sentence("Promise 11: divide", DOWN);
        long[][] rows = {{0, 1}, {0, 5}, {1, 1}, {-1, 1}, {4, 5}, {-4, 5}, {5, 5}, {-5, 5}, {6, 5}, {-6, 5}, {9, 5}, {-9, 5},
            {10, 5}, {-10, 5}, {-1, 5}, {Long.MAX_VALUE, 1}, {Long.MIN_VALUE, 1}, {Long.MIN_VALUE, 2},
            {Long.MIN_VALUE, Long.MAX_VALUE}, {Long.MAX_VALUE, Long.MAX_VALUE}, {-1, Long.MAX_VALUE}};
        for (long[] row : rows) {
            long down = Math.floorDiv(row[0], row[1]);
            run("set 0 " + row[0], "set 1 " + row[1], "divide 2 3 0 1 = " + BigInteger.valueOf(down).abs().bitLength(),
                "text 2 = " + down, "text 3 = " + Math.floorMod(row[0], row[1]), "value 0 = " + row[0],
                "value 1 = " + row[1]);
        }
        // What was in q and r before does not matter, long or below 0.
        run("make 2 " + LEAST, "make 3 " + LEAST, "set 1 5", "divide 2 3 0 1 = 0", "sign 2 = 0", "sign 3 = 0", "text 2 = 0",
            "text 3 = 0", "set 0 -5", "set 3 -9", "divide 2 3 0 1 = 1", "value 2 = -1", "sign 3 = 0", "text 3 = 0");
    }

    private void divideLongest() {
        due.sentence("Promise 11: divide", DOWN);
        run("make 0 " + MOST, "copy 1 0", "negate 1", "set 2 1", "divide 3 4 0 2 = 20000", "value 3 = 2^20000-1", "value 4 = 0",
            "divide 3 4 1 2 = 20000", "value 3 = -2^20000+1", "value 4 = 0", "divide 3 4 0 0 = 1", "value 3 = 1",
            "value 4 = 0", "divide 3 4 1 0 = 1", "value 3 = -1", "value 4 = 0", "divide 3 4 2 0 = 0", "value 3 = 0",
            "value 4 = 1", "negate 2", "divide 3 4 2 0 = 1", "value 3 = -1", "value 4 = 2^20000-2", "divide 3 4 9 0 = 0",
            "value 3 = 0", "value 4 = 0", "add 2 0 2", "divide 3 4 1 2 = 2", "value 3 = -2", "value 4 = 2^20000-3",
            "divide 3 4 0 2 = 1", "value 3 = 1", "value 4 = 1");
        // Rounding down carries through every limb of the quotient.
        run("make 0 " + LEAST, "set 1 2", "divide 2 3 0 1 = 20000", "value 2 = -2^19999", "value 3 = 1", "negate 0",
            "divide 2 3 0 1 = 19999", "value 2 = 2^19999-1", "value 3 = 1", "make 4 2^19999", "divide 2 3 0 4 = 1",
            "value 2 = 1", "value 3 = 2^19999-1", "negate 0", "divide 2 3 0 4 = 2", "value 2 = -2", "value 3 = 1",
            "negate 4", "divide 2 3 4 1 = 19999", "value 2 = -2^19998", "value 3 = 0", "make 5 4294967296",
            "divide 2 3 0 5 = 19969", "value 2 = -2^19968", "value 3 = 1");
        run("make 0 " + MOST, "make 1 2^10000-1", "divide 2 3 0 1 = 10001", "value 2 = 2^10000+1", "value 3 = 0", "negate 0",
            "divide 2 3 0 1 = 10001", "value 2 = -2^10000-1", "value 3 = 0", "set 4 1", "add 0 0 4",
            "divide 2 3 0 1 = 10001", "value 2 = -2^10000-1", "value 3 = 1", "subtract 0 0 4", "subtract 0 0 9",
            "make 5 2^10000", "divide 2 3 0 5 = 10001", "value 2 = -2^10000", "value 3 = 1");
    }

    /** a = q * b + r for quotients around whole limbs, r at both ends of its range, a above and below 0. */
    private void divideNextToALimb() {
        due.sentence("Promise 11: divide", DOWN);
        for (String divisor : DIVISORS) {
            for (String quotient : NEXT_TO_A_LIMB) {
                Run run = run("make 0 " + divisor, "make 1 " + quotient, "set 2 1", "subtract 3 0 2", "multiply 4 0 1");
                BigInteger b = Run.sum(divisor);
                BigInteger q = Run.sum(quotient);
                run.rows("divide 5 6 4 0 = " + q.bitLength(), "value 5 = " + q, "value 6 = 0", "add 7 4 3",
                    "divide 5 6 7 0 = " + q.bitLength(), "value 5 = " + q, "value 6 = " + b.subtract(BigInteger.ONE),
                    "negate 4", "divide 5 6 4 0 = " + q.bitLength(), "value 5 = " + q.negate(), "value 6 = 0");
                if (b.bitLength() > 1) {
                    BigInteger further = q.negate().subtract(BigInteger.ONE);
                    run.rows("subtract 8 4 2", "divide 5 6 8 0", "value 5 = " + further,
                        "value 6 = " + b.subtract(BigInteger.ONE), "negate 7", "divide 5 6 7 0", "value 5 = " + further,
                        "value 6 = 1", "negate 8", "divide 5 6 8 0", "value 5 = " + q, "value 6 = 1");
                }
            }
        }
    }

    /** Limbs at the ends of their range, for which the next limb of a quotient is easily guessed too great. */
    private void divideLimbsAtTheEnds() {
        due.sentence("Promise 11: divide", DOWN);
        for (int high : new int[] {1, 0x20000000, Integer.MAX_VALUE, Integer.MIN_VALUE, -2, -1}) {
            for (int low : ENDS) {
                for (int highest : ENDS) {
                    divideLimbs(high + " " + low, highest, "");
                    divideLimbs(high + " 0 " + low, highest, " 3");
                }
            }
        }
    }

    private void divideLimbs(String divisor, int highest, String lowest) {
        Run run = run(pushed(0, divisor));
        for (int next : ENDS) {
            for (int third : ENDS) {
                run.rows("set 1 0").rows(pushed(1, highest + " " + next + " " + third + lowest)).rows("divide 2 3 1 0",
                    "rest 2 2147483629", "rest 3 2147483629", "length 3", "limb 2 0", "limb 3 0");
            }
        }
    }

    private static String[] pushed(int r, String limbs) {
        return limbs.replaceAll("(\\S+)", "push " + r + " $1;").split("; ?");
    }

    private void divideRefuses() {
        due.sentence("Promise 11: divide",
            "IndexOutOfBoundsException; IllegalArgumentException: q is r; ArithmeticException: b is not above 0.");
        run("set 0 5", "set 1 -6", "set 2 7", "set 3 2", "print 1").nowhere("divide", 4, "");
        run("set 0 17", "set 1 5", "set 3 -1", "make 4 " + LEAST, "set 5 -44", "print 5",
            // Each alone; register 2 is 0.
            "divide 6 6 0 1" + ARGUMENT, "divide 0 0 0 1" + ARGUMENT, "divide 1 1 0 1" + ARGUMENT,
            "divide 23 23 0 1" + ARGUMENT, "divide 6 7 0 2" + ARITHMETIC, "divide 6 7 0 3" + ARITHMETIC,
            "divide 6 7 0 4" + ARITHMETIC, "divide 6 7 2 2" + ARITHMETIC, "divide 0 1 4 4" + ARITHMETIC,
            "divide 6 7 2 3" + ARITHMETIC, "divide 2 3 0 2" + ARITHMETIC,
            // Together with those named behind.
            "divide 6 6 0 2" + ARGUMENT, "divide 6 6 0 3" + ARGUMENT, "divide 2 2 2 2" + ARGUMENT,
            "divide 24 24 0 1" + INDEX, "divide 24 24 0 2" + INDEX, "divide -1 -1 0 3" + INDEX, "divide 6 6 24 1" + INDEX,
            "divide 6 6 24 2" + INDEX, "divide 6 6 0 24" + INDEX, "divide 6 24 0 2" + INDEX, "divide 24 6 0 3" + INDEX,
            "divide 6 7 -1 2" + INDEX, "divide 6 6 0 -1" + INDEX);
        run("make 0 " + MOST, "set 1 1", "print 1", "divide 0 0 0 1" + ARGUMENT, "divide 0 1 0 9" + ARITHMETIC,
            "divide 0 1 0 24" + INDEX, "value 0 = 2^20000-1", "value 1 = 1", "negate 1", "divide 0 1 0 1" + ARITHMETIC);
    }

    private static final String NOTHING_LEFT = "a / b, of which nothing is left.";

    private void exactMakes() {
        due.sentence("Promise 12: exact", NOTHING_LEFT);
        run("set 1 5", "exact 2 0 1 = 0", "sign 2 = 0", "text 2 = 0", "negate 1", "set 2 9", "exact 2 0 1 = 0", "sign 2 = 0",
            "compare 2 0 = 0", "exact 2 1 1 = 1", "value 2 = 1", "copy 3 1", "negate 3", "exact 2 1 3 = 1", "value 2 = -1",
            "exact 2 3 1 = 1", "value 2 = -1", "set 4 35", "exact 2 4 1 = 3", "value 2 = -7", "negate 4",
            "exact 2 4 1 = 3", "value 2 = 7", "exact 2 4 3 = 3", "value 2 = -7", "set 4 -9223372036854775808", "set 5 -1",
            "exact 2 4 5 = 64", "value 2 = 2^63", "set 5 1", "exact 2 4 5 = 64", "value 2 = -2^63", "exact 2 4 4 = 1",
            "value 2 = 1");
        run("make 0 " + MOST, "copy 1 0", "negate 1", "set 2 1", "set 3 -1", "exact 4 0 2 = 20000", "value 4 = 2^20000-1",
            "exact 4 0 3 = 20000", "value 4 = -2^20000+1", "exact 4 1 3 = 20000", "value 4 = 2^20000-1",
            "exact 4 0 0 = 1", "value 4 = 1", "exact 4 0 1 = 1", "value 4 = -1", "exact 4 9 0 = 0", "value 4 = 0",
            "exact 4 9 1 = 0", "sign 4 = 0", "make 5 2^10000+1", "exact 4 0 5 = 10000", "value 4 = 2^10000-1",
            "negate 5", "exact 4 0 5 = 10000", "value 4 = -2^10000+1", "exact 4 1 5 = 10000", "value 4 = 2^10000-1");
    }

    private void exactNextToALimb() {
        for (String divisor : DIVISORS) {
            for (String quotient : NEXT_TO_A_LIMB) {
                BigInteger q = Run.sum(quotient);
                due.sentence("Promise 12: exact", NOTHING_LEFT);
                Run run = run("make 0 " + divisor, "make 1 " + quotient, "set 2 1", "multiply 4 0 1",
                    "exact 5 4 0 = " + q.bitLength(), "value 5 = " + q, "negate 4", "exact 5 4 0 = " + q.bitLength(),
                    "value 5 = " + q.negate(), "negate 0", "exact 5 4 0", "value 5 = " + q);
                due.sentence("Promise 12: exact", EXACT_EXCEPTIONS);
                if (!divisor.equals("1")) {
                    run.rows("add 6 4 2", "subtract 7 4 2", "exact 5 6 0" + ARITHMETIC, "exact 5 7 0" + ARITHMETIC,
                        "negate 0", "exact 5 6 0" + ARITHMETIC, "exact 7 7 0" + ARITHMETIC);
                }
            }
        }
    }

    private static final String EXACT_EXCEPTIONS =
        "IndexOutOfBoundsException; ArithmeticException: b is 0, or something is left.";

    private void exactRefuses() {
        due.sentence("Promise 12: exact", EXACT_EXCEPTIONS);
        run("set 0 6", "set 1 6", "set 2 -2", "print 2").nowhere("exact", 3, "");
        run("set 0 17", "set 1 5", "set 3 -5", "set 4 1", "set 5 -44", "print 5",
            // Register 2 is 0.
            "exact 6 0 2" + ARITHMETIC, "exact 0 0 2" + ARITHMETIC, "exact 6 2 2" + ARITHMETIC, "exact 2 2 2" + ARITHMETIC,
            "exact 6 0 1" + ARITHMETIC, "exact 6 0 3" + ARITHMETIC, "exact 0 0 1" + ARITHMETIC, "exact 1 0 1" + ARITHMETIC,
            "exact 6 1 0" + ARITHMETIC, "exact 6 4 1" + ARITHMETIC, "exact 6 4 3" + ARITHMETIC, "exact 24 0 2" + INDEX,
            "exact 24 0 1" + INDEX, "exact 6 -1 2" + INDEX, "exact 6 24 1" + INDEX, "exact 6 0 24" + INDEX);
        run("make 0 " + MOST, "make 1 2^19999", "set 2 2", "set 5 -44", "print 5", "exact 3 0 2" + ARITHMETIC,
            "exact 3 0 1" + ARITHMETIC, "exact 3 1 0" + ARITHMETIC, "exact 0 0 1" + ARITHMETIC, "exact 3 0 9" + ARITHMETIC,
            "negate 0", "exact 3 0 2" + ARITHMETIC, "exact 2 0 1" + ARITHMETIC, "exact 24 0 9" + INDEX);
    }

    private static final String NEAREST = "The whole number next to a / b, of two as near the even one.";

    private void nearestSmall() {
        due.sentence("Promise 13: nearest", NEAREST);
        long[][] rows = {{0, 1, 0}, {0, 2, 0}, {0, 7, 0}, {1, 1, 1}, {1, 2, 0}, {2, 2, 1}, {3, 2, 2}, {4, 2, 2}, {5, 2, 2},
            {6, 2, 3}, {7, 2, 4}, {9, 2, 4}, {1, 3, 0}, {2, 3, 1}, {3, 3, 1}, {4, 3, 1}, {5, 3, 2}, {1, 4, 0}, {2, 4, 0},
            {3, 4, 1}, {5, 4, 1}, {6, 4, 2}, {7, 4, 2}, {10, 4, 2}, {11, 4, 3}, {14, 4, 4},
            {Long.MAX_VALUE, 1, Long.MAX_VALUE}, {Long.MAX_VALUE, 2, 1L << 62}, {1, Long.MAX_VALUE, 0},
            {1L << 62, Long.MAX_VALUE, 1}, {(1L << 62) - 1, Long.MAX_VALUE, 0}, {4294967295L, 2, 2147483648L},
            {8589934591L, 2, 4294967296L}, {2147483648L, 4294967296L, 0}, {2147483649L, 4294967296L, 1},
            {6442450944L, 4294967296L, 2}, {6442450943L, 4294967296L, 1}};
        for (long[] row : rows) {
            String length = " = " + (64 - Long.numberOfLeadingZeros(row[2]));
            // The nearest to a number below 0 lies as far on the other side of 0; -0 is 0.
            run("set 0 " + row[0], "set 1 " + row[1], "nearest 2 0 1" + length, "text 2 = " + row[2],
                "sign 2 = " + Long.signum(row[2]), "negate 0", "nearest 2 0 1" + length, "text 2 = " + -row[2],
                "sign 2 = " + -Long.signum(row[2]), "value 1 = " + row[1]);
        }
    }

    /** a = k * b + b / 2, and one to each side of it, for even and odd k, above and below 0. */
    private void nearestTwoAsNear() {
        due.sentence("Promise 13: nearest", NEAREST);
        String[] halves = {"1", "2^31", "2^32-1", "2^32", "2^32+1", "2^63", "2^64-1", "2^64", "2^9999", "2^9999+1"};
        String[] factors = {"0", "1", "2", "3", "2^32-2", "2^32-1", "2^32", "2^64-1", "2^64"};
        for (String half : halves) {
            for (String factor : factors) {
                BigInteger k = Run.sum(factor);
                BigInteger further = k.add(BigInteger.ONE);
                BigInteger even = k.testBit(0) ? further : k;
                run("make 0 " + half, "make 1 " + factor, "add 2 0 0", "multiply 3 1 2", "add 3 3 0", "set 4 1",
                    "nearest 5 3 2 = " + even.bitLength(), "value 5 = " + even, "add 6 3 4", "nearest 5 6 2",
                    "value 5 = " + further, "subtract 7 3 4", "nearest 5 7 2", "value 5 = " + k,
                    "negate 3", "nearest 5 3 2 = " + even.bitLength(), "value 5 = " + even.negate(),
                    "negate 6", "nearest 5 6 2", "value 5 = " + further.negate(),
                    "negate 7", "nearest 5 7 2", "value 5 = " + k.negate(), "sign 5 = " + -k.signum());
            }
        }
    }

    private void nearestLongest() {
        due.sentence("Promise 13: nearest", NEAREST);
        // Of the two numbers next to 2^19999 - 1/2 the even one is a carry through every limb away.
        run("make 0 " + MOST, "copy 1 0", "negate 1", "set 2 2", "nearest 3 0 2 = 20000", "value 3 = 2^19999",
            "nearest 3 1 2 = 20000", "value 3 = -2^19999", "set 2 1", "nearest 3 0 2 = 20000", "compare 3 0 = 0",
            "nearest 3 1 2 = 20000", "compare 3 1 = 0", "nearest 3 0 0 = 1", "value 3 = 1", "nearest 3 1 0 = 1",
            "value 3 = -1", "subtract 4 0 2", "nearest 3 4 0 = 1", "value 3 = 1", "nearest 3 0 4 = 1", "value 3 = 1",
            "nearest 3 1 4 = 1", "value 3 = -1", "nearest 3 2 0 = 0", "value 3 = 0", "negate 2", "nearest 3 2 0 = 0",
            "sign 3 = 0", "text 3 = 0", "nearest 3 9 0 = 0", "value 3 = 0");
        // What is left, twice, is longer than 20000.
        run("make 0 " + MOST, "make 1 2^19999", "make 2 2^19999-1", "nearest 3 1 0 = 1", "value 3 = 1", "nearest 3 2 0 = 0",
            "value 3 = 0", "negate 1", "nearest 3 1 0 = 1", "value 3 = -1", "negate 2", "nearest 3 2 0 = 0", "sign 3 = 0",
            "negate 1", "nearest 3 0 1 = 2", "value 3 = 2", "negate 0", "nearest 3 0 1 = 2", "value 3 = -2");
    }

    private void nearestRefuses() {
        due.sentence("Promise 13: nearest", "IndexOutOfBoundsException; ArithmeticException: b is not above 0.");
        run("set 0 6", "set 1 -6", "set 2 2", "print 1").nowhere("nearest", 3, "");
        run("set 0 17", "set 1 5", "set 3 -1", "make 4 " + LEAST, "set 5 -44", "print 5",
            // Register 2 is 0.
            "nearest 6 0 2" + ARITHMETIC, "nearest 6 2 2" + ARITHMETIC, "nearest 0 0 2" + ARITHMETIC,
            "nearest 6 0 3" + ARITHMETIC, "nearest 6 2 3" + ARITHMETIC, "nearest 6 0 4" + ARITHMETIC,
            "nearest 4 4 4" + ARITHMETIC, "nearest 3 4 3" + ARITHMETIC, "nearest 24 0 2" + INDEX, "nearest -1 0 3" + INDEX,
            "nearest 6 24 2" + INDEX, "nearest 6 -1 3" + INDEX, "nearest 6 0 24" + INDEX);
    }

    private void gcdMakes() {
        due.sentence("Promise 14: gcd", "The greatest common divisor, not below 0; 0 of 0 and 0.");
        run("gcd 0 1 2 = 0", "sign 0 = 0", "text 0 = 0", "gcd 0 0 0 = 0", "set 1 -7", "set 0 5", "gcd 0 2 2 = 0", "sign 0 = 0",
            "gcd 0 1 2 = 3", "value 0 = 7", "gcd 0 2 1 = 3", "value 0 = 7", "gcd 0 1 1 = 3", "value 0 = 7", "negate 0",
            "gcd 0 0 2 = 3", "value 0 = 7", "set 3 1", "gcd 0 1 3 = 1", "value 0 = 1", "set 3 -1", "gcd 0 3 1 = 1",
            "value 0 = 1", "gcd 0 3 3 = 1", "gcd 0 3 2 = 1", "value 0 = 1", "set 3 14", "gcd 0 1 3 = 3", "value 0 = 7",
            "gcd 0 3 1 = 3", "value 0 = 7", "negate 3", "gcd 0 3 1 = 3", "value 0 = 7", "value 1 = -7", "value 3 = -14");
        run("set 0 -9223372036854775808", "gcd 1 0 9 = 64", "value 1 = 2^63", "gcd 1 0 0 = 64", "value 1 = 2^63", "set 2 6",
            "gcd 1 0 2 = 2", "value 1 = 2", "set 2 9223372036854775807", "gcd 1 0 2 = 1", "value 1 = 1",
            "set 3 4294967295", "set 4 4294967296", "gcd 1 3 4 = 1", "value 1 = 1", "multiply 5 3 4", "gcd 1 5 3 = 32",
            "value 1 = 2^32-1", "gcd 1 4 5 = 33", "value 1 = 2^32", "multiply 6 3 3", "gcd 1 6 5 = 32", "value 1 = 2^32-1");
        run("make 0 " + MOST, "copy 1 0", "negate 1", "gcd 2 0 9 = 20000", "value 2 = 2^20000-1", "gcd 2 9 1 = 20000",
            "value 2 = 2^20000-1", "gcd 2 0 1 = 20000", "value 2 = 2^20000-1", "gcd 2 1 1 = 20000", "value 2 = 2^20000-1",
            "set 3 1", "gcd 2 1 3 = 1", "value 2 = 1", "subtract 4 0 3", "gcd 2 0 4 = 1", "value 2 = 1", "make 5 2^19999",
            "gcd 2 5 0 = 1", "value 2 = 1", "make 6 -2^19998", "gcd 2 6 5 = 19999", "value 2 = 2^19998",
            "gcd 2 5 6 = 19999", "value 2 = 2^19998");
        run("make 0 " + MOST, "make 1 -2^15000+1", "gcd 2 0 1 = 5000", "value 2 = 2^5000-1", "gcd 2 1 0 = 5000",
            "value 2 = 2^5000-1", "make 3 2^10000-1", "gcd 2 3 0 = 10000", "value 2 = 2^10000-1", "make 4 2^19999-1",
            "gcd 2 0 4 = 1", "value 2 = 1", "set 5 2147483647", "gcd 2 0 5", "make 6 2^64-1", "gcd 2 6 0 = 32",
            "value 2 = 2^32-1");
    }

    /** Neighbours in Fibonacci's row, times the same: the most steps, up to the greatest length. */
    private void gcdOfManySteps() {
        due.sentence("Promise 14: gcd", "The greatest common divisor, not below 0; 0 of 0 and 0.");
        for (int place : new int[] {2, 3, 45, 46, 47, 91, 92, 93, 94, 140, 500, 14000, 28000}) {
            Run run = run("set 1 1");
            for (int bit = 31 - Integer.numberOfLeadingZeros(place); bit >= 0; bit--) {
                // From F(n), F(n + 1) to F(2n), F(2n + 1), and a step further where the place's bit is set.
                run.rows("add 2 1 1", "subtract 2 2 0", "multiply 2 2 0", "multiply 0 0 0", "addProduct 0 1 1 false",
                    "swap 0 1", "copy 0 2");
                if ((place >> bit & 1) == 1) {
                    run.rows("add 0 0 1", "swap 0 1");
                }
            }
            run.rows("gcd 3 0 1 = 1", "value 3 = 1", "gcd 3 1 0 = 1", "set 4 -4294967295", "multiply 0 0 4", "multiply 1 1 4",
                "gcd 3 0 1 = 32", "value 3 = 2^32-1", "negate 0", "gcd 3 1 0 = 32", "value 3 = 2^32-1");
            if (place < 28000) {
                // A great first step before the many small ones.
                for (long step : new long[] {1000, 1 << 20, 1 << 30, Integer.MAX_VALUE, 1L << 31, 4294967295L, 1L << 32,
                    1L << 40, 1L << 61, 1L << 62, Long.MAX_VALUE}) {
                    run.rows("set 5 " + step, "multiply 5 5 1", "add 5 5 0", "gcd 3 5 1 = 32", "gcd 3 1 5 = 32",
                        "value 3 = 2^32-1");
                }
            }
            run.rows("gcd 0 0 1 = 32", "value 0 = 2^32-1");
        }
    }

    private void gcdRefuses() {
        due.sentence("Promise 14: gcd", "IndexOutOfBoundsException.");
        run("set 0 6", "set 1 -6", "set 2 2", "print 1").nowhere("gcd", 3, "");
    }
}
