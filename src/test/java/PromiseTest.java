import java.math.BigInteger;

/** Each promise of the document by hand: ordinary inputs, the edges, wrong inputs. */
public final class PromiseTest {
    private static final String INDEX = "IndexOutOfBoundsException";
    private static final String LONGER = "UnsupportedOperationException";
    private static final String ARGUMENT = "IllegalArgumentException";
    private static final String ARITHMETIC = "ArithmeticException";
    private static final int[] NOWHERE = {24, -1, 25, Integer.MAX_VALUE, Integer.MIN_VALUE};
    private static final long LIMB = 4294967296L;

    private final Due due = new Due("PromiseTest");

    public static void main(String[] args) {
        PromiseTest test = new PromiseTest();
        test.promise1();
        test.promise2();
        test.promise3();
        test.promise3Longest();
        test.promise4();
        test.promise5();
        test.promise6();
        test.promise7();
        test.promise8();
        test.promise9();
        test.promise10();
        test.promise10OutcomeAlone();
        test.promise11();
        test.promise11Longest();
        test.promise11RareTurns();
        test.promise12();
        test.promise13();
        test.promise14();
        test.promise15();
        test.promise16And17();
        test.promise18();
        test.promise19();
        test.promise20And21();
        test.promise20Longest();
        test.sameRegisterTwice();
        test.throwingChangesNothing();
        test.packing();
        test.due.end();
    }

    private PackedNumbers with(long... values) {
        PackedNumbers x = new PackedNumbers();
        for (int r = 0; r < values.length; r++) {
            x.set(r, values[r]);
        }
        return x;
    }

    private void value(String call, PackedNumbers x, int r, String want) {
        due.answer(call + ", then register " + r, Make.text(x, r), want);
    }

    private void promise1() {
        PackedNumbers x = new PackedNumbers();
        due.answer("character(0) of a new object", x.character(0), -1);
        due.answer("character(-1) of a new object", x.character(-1), -1);
        due.answer("character(6021) of a new object", x.character(6021), -1);
        for (int r = 0; r < 24; r++) {
            due.answer("new length(" + r + ")", x.length(r), 0);
            due.answer("new sign(" + r + ")", x.sign(r), 0);
            due.answer("new limb(" + r + ", 0)", x.limb(r, 0), 0);
            due.answer("new compare(" + r + ", 0)", x.compare(r, 0), 0);
        }
        value("new", x, 23, "0");
        x.set(0, 5);
        due.answer("another new object's length(0)", new PackedNumbers().length(0), 0);
        due.answer("another new object's character(0)", new PackedNumbers().character(0), -1);
    }

    private void promise2() {
        PackedNumbers x = new PackedNumbers();
        long[] values = {0, 1, -1, 42, LIMB - 1, LIMB, -LIMB, Long.MAX_VALUE, Long.MIN_VALUE, Long.MIN_VALUE + 1, 0};
        int[] lengths = {0, 1, 1, 6, 32, 33, 33, 63, 64, 63, 0};
        for (int i = 0; i < values.length; i++) {
            due.answer("set(3, " + values[i] + ")", x.set(3, values[i]), lengths[i]);
            value("set", x, 3, Long.toString(values[i]));
        }
        due.answer("set(23, 9)", x.set(23, 9), 4);
        value("set(23, 9)", x, 22, "0");
        for (int r : NOWHERE) {
            due.refusal("set(" + r + ", 1)", INDEX, () -> x.set(r, 1));
        }
    }

    private void promise3() {
        PackedNumbers x = with(0, -5, 5);
        due.answer("push(0, 0) on 0", x.push(0, 0), 0);
        due.answer("push(0, -1) on 0", x.push(0, -1), 32);
        value("push(0, -1)", x, 0, "4294967295");
        due.answer("push(0, MIN)", x.push(0, Integer.MIN_VALUE), 64);
        value("push(0, MIN)", x, 0, "18446744071562067968");
        due.answer("push(1, 7) on -5", x.push(1, 7), 35);
        value("push(1, 7)", x, 1, "-21474836487");
        due.answer("push(2, -1) on 5", x.push(2, -1), 35);
        value("push(2, -1)", x, 2, Long.toString(5 * LIMB + LIMB - 1));
        x.set(1, -5);
        x.push(1, -1);
        value("push(1, -1) on -5", x, 1, Long.toString(-5 * LIMB - (LIMB - 1)));
        for (int r : NOWHERE) {
            due.refusal("push(" + r + ", 1)", INDEX, () -> x.push(r, 1));
        }
    }

    private void promise3Longest() {
        PackedNumbers x = new PackedNumbers();
        Make.power(x, 0, 19967);
        due.answer("length before a push", x.length(0), 19968);
        x.copy(1, 0);
        x.negate(1);
        due.answer("push to 20000", x.push(0, 3), 20000);
        due.answer("push to 20000 below 0", x.push(1, -1), 20000);
        due.answer("lowest limb", x.limb(0, 0), 3);
        due.answer("lowest limb below 0", x.limb(1, 0), -1);
        due.answer("sign", x.sign(1), -1);
        due.refusal("push beyond 20000", LONGER, () -> x.push(0, 0));
        Make.power(x, 2, 19968);
        due.refusal("push of a number of 19969", LONGER, () -> x.push(2, 0));
        due.answer("length after it", x.length(2), 19969);
        due.refusal("push of no register", INDEX, () -> x.push(24, 0));
    }

    private void promise4() {
        PackedNumbers x = with(-12, 7);
        due.answer("copy(2, 0)", x.copy(2, 0), 4);
        value("copy(2, 0)", x, 2, "-12");
        value("copy(2, 0)", x, 0, "-12");
        x.set(0, 99);
        value("copy keeps apart", x, 2, "-12");
        due.answer("copy(1, 1)", x.copy(1, 1), 3);
        value("copy(1, 1)", x, 1, "7");
        due.answer("copy(1, 9)", x.copy(1, 9), 0);
        value("copy of 0", x, 1, "0");
        for (int r : NOWHERE) {
            due.refusal("copy(" + r + ", 0)", INDEX, () -> x.copy(r, 0));
            due.refusal("copy(0, " + r + ")", INDEX, () -> x.copy(0, r));
        }
    }

    private void promise5() {
        PackedNumbers x = with(-12, 1);
        due.answer("swap(0, 1)", x.swap(0, 1), 1);
        value("swap(0, 1)", x, 0, "1");
        value("swap(0, 1)", x, 1, "-12");
        due.answer("swap(1, 1)", x.swap(1, 1), 4);
        value("swap(1, 1)", x, 1, "-12");
        due.answer("swap(5, 1)", x.swap(5, 1), 4);
        due.answer("swap(5, 1), then sign(5)", x.sign(5), -1);
        due.answer("swap(5, 1), then sign(1)", x.sign(1), 0);
        for (int r : NOWHERE) {
            due.refusal("swap(" + r + ", 0)", INDEX, () -> x.swap(r, 0));
            due.refusal("swap(0, " + r + ")", INDEX, () -> x.swap(0, r));
        }
    }

    private void promise6() {
        PackedNumbers x = with(12, Long.MIN_VALUE, 0);
        due.answer("negate(0)", x.negate(0), 4);
        value("negate(0)", x, 0, "-12");
        due.answer("negate(0) again", x.negate(0), 4);
        value("negate(0) again", x, 0, "12");
        due.answer("negate(1)", x.negate(1), 64);
        value("negate(1)", x, 1, "9223372036854775808");
        due.answer("negate of 0", x.negate(2), 0);
        due.answer("sign of it", x.sign(2), 0);
        due.answer("compare of it", x.compare(2, 3), 0);
        value("negate of 0", x, 2, "0");
        for (int r : NOWHERE) {
            due.refusal("negate(" + r + ")", INDEX, () -> x.negate(r));
        }
    }

    private void promise7() {
        long[][] sums = {{3, 4}, {-3, -4}, {3, -4}, {-3, 4}, {5, -5}, {0, 0}, {0, -9}, {LIMB - 1, 1}, {-LIMB, 1}};
        for (long[] sum : sums) {
            PackedNumbers x = with(sum);
            long want = sum[0] + sum[1];
            due.answer("add length", x.add(2, 0, 1), BigInteger.valueOf(want).abs().bitLength());
            value(sum[0] + " + " + sum[1], x, 2, Long.toString(want));
            value("add leaves", x, 0, Long.toString(sum[0]));
        }
        PackedNumbers x = new PackedNumbers();
        Make.longest(x, 0, 1);
        x.set(2, 1);
        x.set(3, -1);
        due.refusal("2^20000 - 1 + 1", LONGER, () -> x.add(4, 0, 2));
        due.answer("2^20000 - 1 - 1", x.add(4, 0, 3), 20000);
        due.answer("2^20000 - 2 + 1", x.add(4, 4, 2), 20000);
        due.answer("compare", x.compare(4, 0), 0);
        x.negate(0);
        due.refusal("-(2^20000 - 1) - 1", LONGER, () -> x.add(0, 0, 3));
        due.refusal("twice the least", LONGER, () -> x.add(0, 0, 0));
        due.answer("the longest less itself", x.add(4, 4, 0), 0);
        threeRegisters("add", x, x::add);
        due.refusal("add: no register before too long", INDEX, () -> x.add(24, 0, 0));
    }

    private void promise8() {
        long[][] parts = {{3, 4}, {-3, -4}, {3, -4}, {-3, 4}, {5, 5}, {0, 0}, {0, 9}, {LIMB, 1}, {-LIMB, -1}, {7, 0}};
        for (long[] part : parts) {
            PackedNumbers x = with(part);
            long want = part[0] - part[1];
            due.answer("subtract length", x.subtract(2, 0, 1), BigInteger.valueOf(want).abs().bitLength());
            value(part[0] + " - " + part[1], x, 2, Long.toString(want));
        }
        PackedNumbers x = new PackedNumbers();
        Make.longest(x, 0, 1);
        x.set(2, 1);
        x.set(3, -1);
        due.refusal("2^20000 - 1 - -1", LONGER, () -> x.subtract(4, 0, 3));
        due.answer("2^20000 - 1 - 1", x.subtract(4, 0, 2), 20000);
        due.answer("0 - (2^20000 - 1)", x.subtract(5, 6, 0), 20000);
        due.refusal("-(2^20000 - 1) - 1", LONGER, () -> x.subtract(5, 5, 2));
        due.answer("itself away", x.subtract(0, 0, 0), 0);
        due.answer("its sign", x.sign(0), 0);
        threeRegisters("subtract", x, x::subtract);
        due.refusal("subtract: no register before too long", INDEX, () -> x.subtract(24, 5, 2));
    }

    private void promise9() {
        long[][] products = {{3, 4}, {-3, -4}, {3, -4}, {-3, 4}, {5, 0}, {0, -5}, {0, 0}, {LIMB - 1, LIMB - 1},
            {Long.MIN_VALUE, Long.MIN_VALUE}, {Long.MAX_VALUE, -1}};
        for (long[] product : products) {
            PackedNumbers x = with(product);
            BigInteger want = BigInteger.valueOf(product[0]).multiply(BigInteger.valueOf(product[1]));
            due.answer("multiply length", x.multiply(2, 0, 1), want.abs().bitLength());
            value(product[0] + " * " + product[1], x, 2, want.toString());
        }
        PackedNumbers x = new PackedNumbers();
        Make.power(x, 0, 9999);
        Make.power(x, 1, 10000);
        due.answer("2^9999 * 2^10000", x.multiply(2, 0, 1), 20000);
        due.refusal("2^10000 * 2^10000", LONGER, () -> x.multiply(3, 1, 1));
        x.set(4, -1);
        x.add(5, 1, 4);
        due.answer("(2^10000 - 1)^2", x.multiply(6, 5, 5), 20000);
        due.answer("its lowest limb", x.limb(6, 0), 1);
        due.answer("its highest limb", x.limb(6, 624), -1);
        x.negate(5);
        due.refusal("-(2^10000 - 1) * 2^10001", LONGER, () -> x.multiply(7, 5, 2));
        x.add(1, 1, 1);
        x.subtract(1, 1, 4);
        due.refusal("a product of 20001 by carries", LONGER, () -> x.multiply(7, 5, 1));
        due.answer("0 by the longest", x.multiply(8, 2, 9), 0);
        due.answer("the longest by -1", x.multiply(8, 2, 4), 20000);
        due.answer("its sign", x.sign(8), -1);
        threeRegisters("multiply", x, x::multiply);
        due.refusal("multiply: no register before too long", INDEX, () -> x.multiply(24, 2, 2));
    }

    private void promise10() {
        long[][] rows = {{100, 3, 4}, {-100, 3, 4}, {100, -3, 4}, {12, 3, 4}, {-12, 3, 4}, {0, 0, 5}, {7, 5, 0},
            {0, LIMB, LIMB / 2 - 1}, {-1, -1, -1}};
        for (long[] row : rows) {
            for (boolean away : new boolean[] {false, true}) {
                PackedNumbers x = with(row);
                long want = away ? row[0] - row[1] * row[2] : row[0] + row[1] * row[2];
                due.answer("addProduct length", x.addProduct(0, 1, 2, away), BigInteger.valueOf(want).abs().bitLength());
                value(row[0] + " and " + row[1] + " * " + row[2] + (away ? " away" : ""), x, 0, Long.toString(want));
            }
        }
        PackedNumbers x = with(6, 7);
        due.answer("addProduct(0, 0, 0, false) of 6", x.addProduct(0, 0, 0, false), 6);
        value("6 + 6 * 6", x, 0, "42");
        due.answer("addProduct(0, 0, 1, true) of 42, 7", x.addProduct(0, 0, 1, true), 8);
        value("42 - 42 * 7", x, 0, "-252");
        threeRegisters("addProduct", x, (to, a, b) -> x.addProduct(to, a, b, false));
        threeRegisters("addProduct away", x, (to, a, b) -> x.addProduct(to, a, b, true));
    }

    /** The product alone may be longer than 20000; what comes of it may not. */
    private void promise10OutcomeAlone() {
        PackedNumbers x = new PackedNumbers();
        Make.longest(x, 0, 1);
        Make.power(x, 2, 10000);
        x.copy(3, 0);
        due.refusal("2^20000 - 1 + 2^20000", LONGER, () -> x.addProduct(3, 2, 2, false));
        due.answer("2^20000 - 1 - 2^20000", x.addProduct(3, 2, 2, true), 1);
        value("2^20000 - 1 - 2^20000", x, 3, "-1");
        due.refusal("0 + 2^20000", LONGER, () -> x.addProduct(4, 2, 2, false));
        due.refusal("0 - 2^20000", LONGER, () -> x.addProduct(4, 2, 2, true));
        due.refusal("-1 - 2^20000", LONGER, () -> x.addProduct(3, 2, 2, true));
        due.answer("-1 + 2^20000", x.addProduct(3, 2, 2, false), 20000);
        due.answer("it is the longest", x.compare(3, 0), 0);
        x.add(5, 2, 2);
        due.refusal("2^20000 - 1 - 2^20001", LONGER, () -> x.addProduct(3, 2, 5, true));
        due.refusal("the longest squared", LONGER, () -> x.addProduct(3, 0, 0, true));
        x.set(6, 1);
        due.refusal("2^20000 - 1 + 1", LONGER, () -> x.addProduct(3, 6, 6, false));
        x.set(7, 2);
        x.negate(0);
        due.answer("2^20000 - 1 - 2 (2^20000 - 1)", x.addProduct(3, 0, 7, false), 20000);
        due.answer("it is the least", x.compare(3, 0), 0);
        due.refusal("no register before too long", INDEX, () -> x.addProduct(24, 0, 0, false));
    }

    private void promise11() {
        long[][] rows = {{7, 2}, {-7, 2}, {8, 2}, {-8, 2}, {1, 2}, {-1, 2}, {0, 5}, {9, 1}, {-9, 1}, {6, 6}, {-6, 6},
            {Long.MIN_VALUE, 3}, {Long.MAX_VALUE, LIMB}, {Long.MIN_VALUE, LIMB + 1}, {-5, LIMB * 7}, {LIMB * 9, LIMB * 2},
            {Long.MIN_VALUE, Long.MAX_VALUE}, {LIMB - 1, LIMB - 1}, {Long.MIN_VALUE, LIMB - 1}};
        for (long[] row : rows) {
            PackedNumbers x = with(row);
            long quotient = Math.floorDiv(row[0], row[1]);
            due.answer("divide length", x.divide(2, 3, 0, 1), BigInteger.valueOf(quotient).abs().bitLength());
            value(row[0] + " / " + row[1], x, 2, Long.toString(quotient));
            value(row[0] + " % " + row[1], x, 3, Long.toString(Math.floorMod(row[0], row[1])));
        }
        PackedNumbers x = with(17, 5, 0, -5);
        due.answer("divide(0, 1, 0, 1)", x.divide(0, 1, 0, 1), 2);
        value("divide(0, 1, 0, 1)", x, 0, "3");
        value("divide(0, 1, 0, 1)", x, 1, "2");
        due.answer("divide(1, 0, 0, 1)", x.divide(1, 0, 0, 1), 1);
        value("divide(1, 0, 0, 1)", x, 1, "1");
        value("divide(1, 0, 0, 1)", x, 0, "1");
        due.refusal("by 0", ARITHMETIC, () -> x.divide(4, 5, 0, 2));
        due.refusal("by -5", ARITHMETIC, () -> x.divide(4, 5, 0, 3));
        due.refusal("q is r", ARGUMENT, () -> x.divide(4, 4, 0, 1));
        due.refusal("q is r before by 0", ARGUMENT, () -> x.divide(4, 4, 0, 2));
        due.refusal("no register before q is r", INDEX, () -> x.divide(24, 24, 0, 1));
        for (int r : NOWHERE) {
            due.refusal("divide(" + r + ", 1, 2, 3)", INDEX, () -> x.divide(r, 1, 2, 3));
            due.refusal("divide(0, " + r + ", 2, 3)", INDEX, () -> x.divide(0, r, 2, 3));
            due.refusal("divide(0, 0, " + r + ", 3)", INDEX, () -> x.divide(0, 0, r, 3));
            due.refusal("divide(0, 0, 2, " + r + ")", INDEX, () -> x.divide(0, 0, 2, r));
        }
    }

    private void promise11Longest() {
        PackedNumbers x = new PackedNumbers();
        Make.longest(x, 0, 1);
        x.set(2, 1);
        due.answer("the longest by 1", x.divide(3, 4, 0, 2), 20000);
        due.answer("nothing is left", x.sign(4), 0);
        x.negate(0);
        due.answer("the least by 1", x.divide(3, 4, 0, 2), 20000);
        due.answer("it is the least", x.compare(3, 0), 0);
        x.set(2, 2);
        due.answer("the least by 2", x.divide(3, 4, 0, 2), 20000);
        due.answer("lowest limb of -2^19999", x.limb(3, 0), 0);
        value("what is left of it", x, 4, "1");
        due.answer("the least by 2^19999 - 1", x.divide(3, 4, 0, 1), 2);
        value("the least by 2^19999 - 1", x, 3, "-3");
        due.answer("what is left of it", x.length(4), 19999);
    }

    /** Dividends for which the first guess of a limb is too great by 1, by 2, and after all corrections. */
    private void promise11RareTurns() {
        int[][][] rows = {
            {{0x7FFFFFFF, 0x80000000, 0, 0}, {0x80000000, 0, 1}},
            {{0x80000000, 0, 0, 3}, {0x20000000, 0, 1}},
            {{0x80000000, 0, 0xFFFFFFFE, 0}, {0x80000000, 0xFFFFFFFF}},
            {{0x8000, 0, 0, 3}, {0x2000, 0, 1}},
            {{0, 0xFFFFFFFE, 0x80000000, 0}, {0xFFFFFFFF, 0x80000000}},
            {{0xFFFFFFFF, 0xFFFFFFFF, 0xFFFFFFFF, 0xFFFFFFFE}, {0xFFFFFFFF, 0xFFFFFFFF}},
            {{0x80000000, 0xFFFFFFFF, 0, 0}, {0x80000000, 0xFFFFFFFF, 0xFFFFFFFF}},
        };
        for (int[][] row : rows) {
            PackedNumbers x = new PackedNumbers();
            BigInteger[] values = {BigInteger.ZERO, BigInteger.ZERO};
            for (int r = 0; r < 2; r++) {
                for (int limb : row[r]) {
                    x.push(r, limb);
                    values[r] = values[r].shiftLeft(32).add(BigInteger.valueOf(limb & (LIMB - 1)));
                }
            }
            BigInteger[] want = values[0].divideAndRemainder(values[1]);
            due.answer("length of " + values[0] + " / " + values[1], x.divide(2, 3, 0, 1), want[0].bitLength());
            value(values[0] + " / " + values[1], x, 2, want[0].toString());
            value(values[0] + " % " + values[1], x, 3, want[1].toString());
            value("the divisor stays", x, 1, values[1].toString());
        }
    }

    private void promise12() {
        long[][] rows = {{8, 2}, {-8, 2}, {8, -2}, {-8, -2}, {0, 7}, {0, -7}, {9, 9}, {LIMB * 6, LIMB * 3}, {-9, 1},
            {Long.MIN_VALUE, -2}};
        for (long[] row : rows) {
            PackedNumbers x = with(row);
            long want = row[0] / row[1];
            due.answer("exact length", x.exact(2, 0, 1), BigInteger.valueOf(want).abs().bitLength());
            value(row[0] + " exactly by " + row[1], x, 2, Long.toString(want));
        }
        PackedNumbers x = with(8, 3, 0, -3, LIMB, LIMB + 1);
        due.refusal("8 by 3", ARITHMETIC, () -> x.exact(6, 0, 1));
        due.refusal("8 by -3", ARITHMETIC, () -> x.exact(6, 0, 3));
        due.refusal("3 by 8", ARITHMETIC, () -> x.exact(6, 1, 0));
        due.refusal("8 by 0", ARITHMETIC, () -> x.exact(6, 0, 2));
        due.refusal("0 by 0", ARITHMETIC, () -> x.exact(6, 2, 2));
        due.refusal("2^32 by 2^32 + 1", ARITHMETIC, () -> x.exact(6, 4, 5));
        due.answer("exact(0, 0, 0)", x.exact(0, 0, 0), 1);
        Make.longest(x, 7, 8);
        due.answer("the longest by itself below 0", x.negate(8), 19999);
        due.refusal("the longest by -(2^19999 - 1)", ARITHMETIC, () -> x.exact(9, 7, 8));
        x.set(9, -1);
        due.answer("the longest by -1", x.exact(9, 7, 9), 20000);
        due.answer("its sign", x.sign(9), -1);
        threeRegisters("exact", x, x::exact);
        due.refusal("exact: no register before by 0", INDEX, () -> x.exact(24, 0, 2));
    }

    private void promise13() {
        long[][] rows = {{7, 2, 4}, {5, 2, 2}, {-5, 2, -2}, {-7, 2, -4}, {1, 2, 0}, {-1, 2, 0}, {3, 2, 2}, {-3, 2, -2},
            {7, 3, 2}, {8, 3, 3}, {-7, 3, -2}, {-8, 3, -3}, {0, 9, 0}, {12, 4, 3}, {-12, 4, -3}, {4, 9, 0}, {5, 9, 1},
            {-4, 9, 0}, {-5, 9, -1}, {LIMB * 3, LIMB * 2, 2}, {LIMB * 5, LIMB * 2, 2}, {LIMB * 5 + 1, LIMB * 2, 3},
            {-LIMB, LIMB * 2, 0}, {-LIMB - 1, LIMB * 2, -1}, {Long.MIN_VALUE, 1, Long.MIN_VALUE}, {2 * LIMB - 1, 2, LIMB}};
        for (long[] row : rows) {
            PackedNumbers x = with(row[0], row[1]);
            due.answer("nearest length", x.nearest(2, 0, 1), BigInteger.valueOf(row[2]).abs().bitLength());
            value(row[0] + " nearest by " + row[1], x, 2, Long.toString(row[2]));
            due.answer("its sign", x.sign(2), Long.signum(row[2]));
        }
        PackedNumbers x = with(8, 0, -3);
        due.refusal("8 by 0", ARITHMETIC, () -> x.nearest(3, 0, 1));
        due.refusal("8 by -3", ARITHMETIC, () -> x.nearest(3, 0, 2));
        due.answer("nearest(0, 0, 0)", x.nearest(0, 0, 0), 1);
        Make.longest(x, 5, 6);
        x.set(7, 2);
        due.answer("2^20000 - 1 by 2", x.nearest(8, 5, 7), 20000);
        due.answer("it is 2^19999", x.limb(8, 624), Integer.MIN_VALUE);
        due.answer("it is even", x.limb(8, 0), 0);
        due.answer("2^20000 - 1 by 2^19999 - 1", x.nearest(8, 5, 6), 2);
        x.negate(5);
        due.answer("-(2^20000 - 1) by 2", x.nearest(8, 5, 7), 20000);
        due.answer("its sign", x.sign(8), -1);
        threeRegisters("nearest", x, x::nearest);
        due.refusal("nearest: no register before by 0", INDEX, () -> x.nearest(24, 0, 1));
    }

    private void promise14() {
        long[][] rows = {{12, 18, 6}, {18, 12, 6}, {-12, 18, 6}, {12, -18, 6}, {-12, -18, 6}, {0, 0, 0}, {0, 7, 7},
            {-7, 0, 7}, {1, 99, 1}, {13, 13, 13}, {17, 31, 1}, {LIMB, LIMB * 3, LIMB}, {LIMB * 6, LIMB * 4, LIMB * 2},
            {Long.MAX_VALUE, 7, 7}, {LIMB + 1, LIMB - 1, 1}};
        for (long[] row : rows) {
            PackedNumbers x = with(row[0], row[1]);
            due.answer("gcd length", x.gcd(2, 0, 1), BigInteger.valueOf(row[2]).bitLength());
            value("gcd of " + row[0] + ", " + row[1], x, 2, Long.toString(row[2]));
            value("gcd leaves", x, 0, Long.toString(row[0]));
        }
        PackedNumbers x = with(Long.MIN_VALUE);
        due.answer("gcd of the least long and 0", x.gcd(1, 0, 5), 64);
        due.answer("of itself", x.gcd(0, 0, 0), 64);
        value("of itself", x, 0, "9223372036854775808");
        Make.longest(x, 2, 3);
        x.negate(2);
        due.answer("gcd of the least and 0", x.gcd(4, 2, 5), 20000);
        due.answer("its sign", x.sign(4), 1);
        due.answer("gcd of 2^20000 - 1 and 2^19999 - 1", x.gcd(4, 2, 3), 1);
        Make.power(x, 6, 15000);
        x.set(7, 1);
        x.subtract(6, 6, 7);
        due.answer("gcd of 2^20000 - 1 and 2^15000 - 1", x.gcd(6, 6, 2), 5000);
        due.answer("it is 2^5000 - 1", x.add(6, 6, 7), 5001);
        threeRegisters("gcd", x, x::gcd);
    }

    private void promise15() {
        long[] values = {Long.MIN_VALUE, -LIMB - 1, -LIMB, -2, -1, 0, 1, 2, LIMB - 1, LIMB, LIMB + 1, Long.MAX_VALUE};
        PackedNumbers x = with(values);
        for (int a = 0; a < values.length; a++) {
            for (int b = 0; b < values.length; b++) {
                due.answer("compare " + values[a] + ", " + values[b], x.compare(a, b), Integer.compare(a, b));
            }
        }
        for (int r : NOWHERE) {
            due.refusal("compare(" + r + ", 0)", INDEX, () -> x.compare(r, 0));
            due.refusal("compare(0, " + r + ")", INDEX, () -> x.compare(0, r));
        }
        Make.longest(x, 20, 21);
        x.copy(22, 20);
        due.answer("compare of the longest", x.compare(20, 22), 0);
        due.answer("compare of the longest and 2^19999 - 1", x.compare(20, 21), 1);
        x.negate(22);
        due.answer("compare of the longest and the least", x.compare(20, 22), 1);
        due.answer("compare of the least and 2^19999 - 1", x.compare(22, 21), -1);
        x.negate(21);
        due.answer("compare of the least and -(2^19999 - 1)", x.compare(22, 21), -1);
    }

    private void promise16And17() {
        long[] values = {0, 1, -1, 255, 256, -256, LIMB - 1, -LIMB, Long.MAX_VALUE, Long.MIN_VALUE};
        int[] lengths = {0, 1, 1, 8, 9, 9, 32, 33, 63, 64};
        PackedNumbers x = with(values);
        for (int r = 0; r < values.length; r++) {
            due.answer("sign of " + values[r], x.sign(r), Long.signum(values[r]));
            due.answer("length of " + values[r], x.length(r), lengths[r]);
        }
        for (int r : NOWHERE) {
            due.refusal("sign(" + r + ")", INDEX, () -> x.sign(r));
            due.refusal("length(" + r + ")", INDEX, () -> x.length(r));
        }
        Make.longest(x, 20, 21);
        due.answer("length of the longest", x.length(20), 20000);
        due.answer("length of 2^19999 - 1", x.length(21), 19999);
        due.answer("sign of the longest", x.sign(20), 1);
    }

    private void promise18() {
        PackedNumbers x = with(-(5 * LIMB + 7), 0, Long.MIN_VALUE, -1);
        int[][] rows = {{0, 0, 7}, {0, 1, 5}, {0, 2, 0}, {1, 0, 0}, {2, 0, 0}, {2, 1, Integer.MIN_VALUE}, {2, 2, 0},
            {3, 0, 1}, {3, 1, 0}, {3, 625, 0}, {3, 632, 0}, {3, Integer.MAX_VALUE, 0}, {23, Integer.MAX_VALUE, 0}};
        for (int[] row : rows) {
            due.answer("limb(" + row[0] + ", " + row[1] + ")", x.limb(row[0], row[1]), row[2]);
        }
        due.refusal("limb(0, -1)", INDEX, () -> x.limb(0, -1));
        due.refusal("limb(0, MIN)", INDEX, () -> x.limb(0, Integer.MIN_VALUE));
        for (int r : NOWHERE) {
            due.refusal("limb(" + r + ", 0)", INDEX, () -> x.limb(r, 0));
            due.refusal("limb(" + r + ", -1)", INDEX, () -> x.limb(r, -1));
        }
        // What a longer number had there before must not be seen behind a shorter one.
        Make.longest(x, 20, 21);
        due.answer("highest limb", x.limb(20, 624), -1);
        due.answer("behind it", x.limb(20, 625), 0);
        x.set(20, 3);
        due.answer("behind a shorter one", x.limb(20, 1), 0);
        due.answer("far behind a shorter one", x.limb(20, 624), 0);
    }

    private void promise19() {
        long[] values = {0, 1, -1, 10, -10, Long.MAX_VALUE, Long.MIN_VALUE, LIMB, -LIMB};
        int[] moduli = {1, 2, 3, 7, 10, 65536, 1000003, 2147483629, Integer.MAX_VALUE};
        PackedNumbers x = with(values);
        for (int r = 0; r < values.length; r++) {
            for (int p : moduli) {
                due.answer(values[r] + " modulo " + p, (long) x.rest(r, p), Math.floorMod(values[r], (long) p));
            }
            value("rest leaves", x, r, Long.toString(values[r]));
        }
        for (int p : new int[] {0, -1, Integer.MIN_VALUE}) {
            due.refusal("rest(0, " + p + ")", ARGUMENT, () -> x.rest(0, p));
            due.refusal("rest(24, " + p + ")", INDEX, () -> x.rest(24, p));
        }
        for (int r : NOWHERE) {
            due.refusal("rest(" + r + ", 5)", INDEX, () -> x.rest(r, 5));
        }
        Make.power(x, 20, 19999);
        due.answer("2^19999 modulo 3", x.rest(20, 3), 2);
        due.answer("2^19999 modulo 7", x.rest(20, 7), 2);
        x.negate(20);
        due.answer("-2^19999 modulo 3", x.rest(20, 3), 1);
        due.answer("-2^19999 modulo 2^30", x.rest(20, 1 << 30), 0);
    }

    private void promise20And21() {
        long[] values = {0, 7, -7, 10, 999999999, 1000000000, -1000000000, 1000000001, 1000000000000000000L,
            1000000001000000001L, Long.MIN_VALUE, Long.MAX_VALUE, 5000000000L};
        PackedNumbers x = with(values);
        for (int r = 0; r < values.length; r++) {
            String want = Long.toString(values[r]);
            value("print", x, r, want);
            due.answer("how many characters of " + want, x.print(r), want.length());
            due.answer("behind the last character", x.character(want.length()), -1);
        }
        x.set(0, 7);
        due.answer("a digit", x.print(0), 1);
        x.set(0, -12);
        due.answer("what was printed stays", x.character(0), (int) '7');
        due.answer("behind it", x.character(1), -1);
        due.answer("before it", x.character(-1), -1);
        due.answer("far before it", x.character(Integer.MIN_VALUE), -1);
        due.answer("far behind it", x.character(Integer.MAX_VALUE), -1);
        for (int r : NOWHERE) {
            due.refusal("print(" + r + ")", INDEX, () -> x.print(r));
        }
        due.answer("print that throws prints nothing", x.character(0), (int) '7');
    }

    private void promise20Longest() {
        String want = BigInteger.TWO.pow(20000).subtract(BigInteger.ONE).negate().toString();
        // The characters are more than the calls of one object.
        for (int from = 0; from < want.length() + 2; from += 400) {
            PackedNumbers x = new PackedNumbers();
            Make.longest(x, 0, 1);
            x.negate(0);
            due.answer("print of the least", x.print(0), want.length());
            for (int i = from; i < from + 400; i++) {
                due.answer("character(" + i + ") of the least", x.character(i), i < want.length() ? want.charAt(i) : -1);
            }
        }
        PackedNumbers x = new PackedNumbers();
        Make.longest(x, 0, 1);
        due.answer("print of the longest", x.print(0), 6021);
        due.answer("its first digit", x.character(0), (int) '3');
        x.set(0, 4);
        due.answer("print of a short one after it", x.print(0), 1);
        due.answer("its digit", x.character(0), (int) '4');
        due.answer("nothing is behind it", x.character(1), -1);
    }

    /** A call of a target and two sources. */
    private interface Three {
        int run(int to, int a, int b);
    }

    private void threeRegisters(String call, PackedNumbers x, Three three) {
        for (int r : NOWHERE) {
            due.refusal(call + "(" + r + ", 0, 0)", INDEX, () -> three.run(r, 0, 0));
            due.refusal(call + "(0, " + r + ", 0)", INDEX, () -> three.run(0, r, 0));
            due.refusal(call + "(0, 0, " + r + ")", INDEX, () -> three.run(0, 0, r));
        }
    }

    /** Target and sources in every pattern of same and other registers. */
    private void sameRegisterTwice() {
        long[] values = {84, 36, 6};
        for (int to = 0; to < 3; to++) {
            for (int a = 0; a < 3; a++) {
                for (int b = 0; b < 3; b++) {
                    long va = values[a];
                    long vb = values[b];
                    String where = " " + to + " " + a + " " + b;
                    PackedNumbers x = with(values);
                    x.add(to, a, b);
                    value("add" + where, x, to, Long.toString(va + vb));
                    x = with(values);
                    x.subtract(to, a, b);
                    value("subtract" + where, x, to, Long.toString(va - vb));
                    x = with(values);
                    x.multiply(to, a, b);
                    value("multiply" + where, x, to, Long.toString(va * vb));
                    x = with(values);
                    x.addProduct(to, a, b, true);
                    value("addProduct" + where, x, to, Long.toString(values[to] - va * vb));
                    x = with(values);
                    x.gcd(to, a, b);
                    value("gcd" + where, x, to, BigInteger.valueOf(va).gcd(BigInteger.valueOf(vb)).toString());
                    x = with(values);
                    x.nearest(to, a, b);
                    value("nearest" + where, x, to, Long.toString((long) Math.rint((double) va / vb)));
                    divideBoth(values, to, a, b);
                }
            }
        }
    }

    private void divideBoth(long[] values, int q, int a, int b) {
        for (int r = 0; r < 3; r++) {
            if (r != q) {
                PackedNumbers x = with(values);
                x.divide(q, r, a, b);
                String where = " " + q + " " + r + " " + a + " " + b;
                value("divide" + where, x, q, Long.toString(values[a] / values[b]));
                value("divide" + where, x, r, Long.toString(values[a] % values[b]));
                int other = 3 - q - r;
                value("divide" + where, x, other, Long.toString(values[other]));
            }
        }
    }

    private void throwingChangesNothing() {
        PackedNumbers x = with(3, -5, 0, LIMB);
        Make.longest(x, 5, 6);
        x.print(1);
        String before = Make.marks(x);
        due.refusal("set", INDEX, () -> x.set(24, 1));
        due.refusal("push", LONGER, () -> x.push(5, 1));
        due.refusal("copy", INDEX, () -> x.copy(0, 24));
        due.refusal("swap", INDEX, () -> x.swap(0, 24));
        due.refusal("negate", INDEX, () -> x.negate(-1));
        due.refusal("add", LONGER, () -> x.add(0, 5, 5));
        due.refusal("add to itself", LONGER, () -> x.add(5, 5, 5));
        due.refusal("subtract", LONGER, () -> x.subtract(5, 5, 1));
        due.refusal("multiply", LONGER, () -> x.multiply(5, 5, 0));
        due.refusal("addProduct", LONGER, () -> x.addProduct(5, 0, 0, false));
        due.refusal("divide by 0", ARITHMETIC, () -> x.divide(0, 1, 5, 2));
        due.refusal("divide by less", ARITHMETIC, () -> x.divide(0, 3, 5, 1));
        due.refusal("divide to one", ARGUMENT, () -> x.divide(0, 0, 5, 3));
        due.refusal("divide to none", INDEX, () -> x.divide(0, 24, 5, 3));
        due.refusal("exact by 0", ARITHMETIC, () -> x.exact(0, 5, 2));
        due.refusal("exact and left", ARITHMETIC, () -> x.exact(5, 5, 3));
        due.refusal("nearest by 0", ARITHMETIC, () -> x.nearest(0, 5, 2));
        due.refusal("nearest by less", ARITHMETIC, () -> x.nearest(5, 5, 1));
        due.refusal("gcd", INDEX, () -> x.gcd(0, 5, 24));
        due.refusal("rest", ARGUMENT, () -> x.rest(0, 0));
        due.refusal("print", INDEX, () -> x.print(24));
        due.answer("all registers after calls that threw", Make.marks(x), before);
        due.answer("what was printed", x.character(0), (int) '-');
        due.answer("what was printed", x.character(1), (int) '5');
        due.answer("behind it", x.character(2), -1);
    }

    /** Long numbers in all registers, made anew again and again, each with a mark of its own in its lowest limb. */
    private void packing() {
        PackedNumbers x = new PackedNumbers();
        Make.power(x, 0, 19967);
        for (int r = 1; r < 24; r++) {
            x.copy(r, 0);
        }
        for (int round = 0; round < 6; round++) {
            for (int r = 23; r > 0; r--) {
                int mark = 100 * round + r;
                x.copy(r, 0);
                due.answer("push(" + r + ", " + mark + ")", x.push(r, mark), 20000);
            }
            for (int r = 1; r < 24; r++) {
                due.answer("limb(" + r + ", 0) in round " + round, x.limb(r, 0), 100 * round + r);
            }
        }
        for (int r = 0; r < 24; r++) {
            due.answer("highest limb of " + r, x.limb(r, r == 0 ? 623 : 624), Integer.MIN_VALUE);
        }
    }
}
