/** The boundary cases of promises 15 to 21: the calls that read numbers. */
final class ReadingBoundaries {
    private static final String INDEX = Run.INDEX;
    private static final String ARGUMENT = Run.ARGUMENT;
    private static final String MOST = Run.MOST;
    private static final String LEAST = Run.LEAST;

    private final Due due;

    private ReadingBoundaries(Due due) {
        this.due = due;
    }

    static void look(Due due) {
        ReadingBoundaries all = new ReadingBoundaries(due);
        all.compareAnswers();
        all.compareRefuses();
        all.signAnswers();
        all.signRefuses();
        all.lengthAnswers();
        all.lengthRefuses();
        all.limbAnswers();
        all.limbRefuses();
        all.restAnswers();
        all.restRefuses();
        all.printAnswers();
        all.printInnerZeros();
        all.printRefuses();
        all.characterAnswers();
    }

    private Run run(String... rows) {
        return new Run(due, rows);
    }

    private void compareAnswers() {
        due.sentence("Promise 15: compare", "-1, 0 or 1: a is less than b, the same, greater.");
        run("compare 0 1 = 0", "compare 0 0 = 0", "set 1 1", "compare 0 1 = -1", "compare 1 0 = 1", "compare 1 1 = 0",
            "negate 1", "compare 0 1 = 1", "compare 1 0 = -1", "compare 1 1 = 0", "set 2 1", "compare 1 2 = -1",
            "compare 2 1 = 1", "negate 3", "compare 0 3 = 0", "compare 3 0 = 0", "compare 3 1 = 1", "compare 3 2 = -1",
            "set 4 -9223372036854775808", "set 5 9223372036854775807", "compare 4 5 = -1", "compare 5 4 = 1",
            "compare 4 1 = -1", "compare 5 2 = 1", "negate 4", "compare 4 5 = 1", "compare 5 4 = -1", "copy 6 4",
            "compare 6 4 = 0", "negate 6", "compare 6 4 = -1", "compare 23 0 = 0", "set 23 -1", "compare 23 1 = 0");
        // Limbs are digits without a sign, the higher ones first; one more limb is more whatever it is.
        String[] rising = {"2^31-1", "2^31", "2^32-1", "2^32", "2^32+2^31-1", "2^32+2^31", "2^33-1", "2^33", "2^63",
            "2^63+2^31", "2^64-1", "2^64", "2^64+1"};
        Run run = run();
        for (int i = 0; i < rising.length; i++) {
            run.rows("make " + i + " " + rising[i]);
        }
        for (int i = 1; i < rising.length; i++) {
            run.rows("compare " + (i - 1) + " " + i + " = -1", "compare " + i + " " + (i - 1) + " = 1");
        }
        for (int i = 0; i < rising.length; i++) {
            run.rows("negate " + i);
        }
        for (int i = 1; i < rising.length; i++) {
            run.rows("compare " + (i - 1) + " " + i + " = 1", "compare " + i + " " + (i - 1) + " = -1");
        }
        run("make 0 " + MOST, "copy 1 0", "set 2 1", "compare 0 1 = 0", "subtract 1 0 2", "compare 0 1 = 1",
            "compare 1 0 = -1", "make 3 2^19999", "compare 0 3 = 1", "compare 3 1 = -1", "make 4 2^19968-1",
            "make 5 2^19968", "compare 4 5 = -1", "compare 5 4 = 1", "negate 0", "negate 1", "compare 0 1 = -1",
            "compare 1 0 = 1", "compare 0 2 = -1", "compare 2 0 = 1", "compare 0 9 = -1", "compare 9 0 = 1",
            "compare 0 0 = 0", "copy 6 0", "compare 6 0 = 0", "negate 6", "compare 6 0 = 1", "compare 0 6 = -1");
    }

    private void compareRefuses() {
        due.sentence("Promise 15: compare", "IndexOutOfBoundsException.");
        run("set 0 6", "set 1 -6", "print 1").nowhere("compare", 2, "");
    }

    private void signAnswers() {
        due.sentence("Promise 16: sign", "-1, 0 or 1.");
        run("sign 0 = 0", "set 0 1", "sign 0 = 1", "set 0 -1", "sign 0 = -1", "set 0 9223372036854775807", "sign 0 = 1",
            "set 0 -9223372036854775808", "sign 0 = -1", "subtract 0 0 0", "sign 0 = 0", "negate 0", "sign 0 = 0",
            "set 1 -3", "multiply 0 1 2", "sign 0 = 0", "nearest 0 1 3 = ArithmeticException", "set 3 7",
            "nearest 0 1 3", "sign 0 = 0", "addProduct 1 1 1 false", "sign 1 = 1", "sign 23 = 0", "set 23 -4294967296",
            "sign 23 = -1", "make 4 " + MOST, "sign 4 = 1", "negate 4", "sign 4 = -1", "copy 4 5", "sign 4 = 0");
    }

    private void signRefuses() {
        due.sentence("Promise 16: sign", "IndexOutOfBoundsException.");
        run("set 0 6", "set 23 -6", "print 23").nowhere("sign", 1, "");
    }

    private void lengthAnswers() {
        due.sentence("Promise 17: length", "The LENGTH.");
        run("length 0 = 0", "set 0 1", "length 0 = 1", "set 0 -1", "length 0 = 1", "set 0 2", "length 0 = 2", "set 0 -3",
            "length 0 = 2", "set 0 -4", "length 0 = 3", "make 0 2^31-1", "length 0 = 31", "make 0 2^31", "length 0 = 32",
            "make 0 2^32-1", "length 0 = 32", "make 0 2^32", "length 0 = 33", "make 0 -2^32", "length 0 = 33",
            "make 0 2^63-1", "length 0 = 63", "make 0 -2^63", "length 0 = 64", "make 0 2^64-1", "length 0 = 64",
            "make 0 2^64", "length 0 = 65", "make 0 -2^64", "length 0 = 65", "set 0 0", "length 0 = 0");
        run("make 0 2^19999-1", "length 0 = 19999", "make 0 2^19999", "length 0 = 20000", "make 0 " + MOST,
            "length 0 = 20000", "negate 0", "length 0 = 20000", "copy 23 0", "length 23 = 20000", "set 0 9", "length 0 = 4",
            "length 23 = 20000", "make 1 2^19968-1", "length 1 = 19968", "make 1 2^19968", "length 1 = 19969");
    }

    private void lengthRefuses() {
        due.sentence("Promise 17: length", "IndexOutOfBoundsException.");
        run("set 0 6", "set 23 -6", "print 23").nowhere("length", 1, "");
    }

    private void limbAnswers() {
        due.sentence("Promise 18: limb", "Limb k of the size, as an int of the same bits; 0 behind the last one.");
        // Some of these k wrap around to small numbers when they are taken times 4, 32 or 64.
        int[] behind = {1, 2, 624, 625, 626, 632, 1000, 1 << 26, 1 << 27, (1 << 27) + 1, 1 << 28, 1 << 29, 1 << 30,
            (1 << 30) + 1, Integer.MAX_VALUE - 1, Integer.MAX_VALUE};
        Run zero = run("limb 0 0 = 0");
        Run short1 = run("set 0 -5", "limb 0 0 = 5");
        for (int k : behind) {
            zero.rows("limb 0 " + k + " = 0", "limb 23 " + k + " = 0");
            short1.rows("limb 0 " + k + " = 0");
        }
        run("set 0 4294967295", "limb 0 0 = -1", "limb 0 1 = 0", "set 0 -4294967295", "limb 0 0 = -1", "limb 0 1 = 0",
            "set 0 2147483648", "limb 0 0 = -2147483648", "set 0 -2147483648", "limb 0 0 = -2147483648",
            "set 0 2147483647", "limb 0 0 = 2147483647", "set 0 -1", "limb 0 0 = 1", "set 0 -4294967296", "limb 0 0 = 0",
            "limb 0 1 = 1", "limb 0 2 = 0", "set 0 -9223372036854775808", "limb 0 0 = 0", "limb 0 1 = -2147483648",
            "limb 0 2 = 0", "push 0 -2", "limb 0 0 = -2", "limb 0 1 = 0", "limb 0 2 = -2147483648", "limb 0 3 = 0");
        Run longest = run("make 0 " + LEAST, "limb 0 0 = -1", "limb 0 1 = -1", "limb 0 312 = -1", "limb 0 623 = -1",
            "limb 0 624 = -1", "make 1 2^19999", "limb 1 0 = 0", "limb 1 623 = 0", "limb 1 624 = -2147483648",
            "make 2 2^19968-1", "limb 2 623 = -1", "limb 2 624 = 0");
        for (int k : behind) {
            if (k > 624) {
                longest.rows("limb 0 " + k + " = 0", "limb 1 " + k + " = 0");
            }
        }
        longest.rows("set 0 3", "limb 0 0 = 3", "limb 0 1 = 0", "limb 0 623 = 0", "limb 0 624 = 0");
    }

    private void limbRefuses() {
        due.sentence("Promise 18: limb", "IndexOutOfBoundsException: also when k is below 0.");
        run("set 0 6", "set 23 -6", "print 23", "limb 0 -1" + INDEX, "limb 23 -1" + INDEX, "limb 5 -1" + INDEX,
            "limb 0 -2147483648" + INDEX, "limb 0 -32" + INDEX, "limb 0 -134217728" + INDEX, "make 1 " + MOST,
            "limb 1 -1" + INDEX, "limb 1 -2147483648" + INDEX).nowhere("limb", 1, " 0");
        run("set 0 6", "print 0").nowhere("limb", 1, " -1").nowhere("limb", 1, " 2147483647");
    }

    private void restAnswers() {
        due.sentence("Promise 19: rest", "a modulo p, 0 .. p - 1.");
        int[] moduli = {1, 2, 3, 65536, 1 << 30, Integer.MAX_VALUE - 1, Integer.MAX_VALUE};
        for (int p : moduli) {
            String by = " " + p + " = ";
            run("rest 0" + by + 0, "set 0 " + p, "rest 0" + by + 0, "negate 0", "rest 0" + by + 0, "set 0 " + (p - 1L),
                "rest 0" + by + (p - 1), "negate 0", "rest 0" + by + 1 % p, "set 0 " + (p + 1L), "rest 0" + by + 1 % p,
                "negate 0", "rest 0" + by + (p - 1), "set 0 -1", "rest 0" + by + (p - 1), "text 0 = -1",
                "set 0 9223372036854775807", "rest 0" + by + Long.MAX_VALUE % p, "text 0 = 9223372036854775807",
                "set 0 -9223372036854775808", "rest 0" + by + Math.floorMod(Long.MIN_VALUE, p),
                "set 0 4294967295", "rest 0" + by + 4294967295L % p, "set 0 -4294967295",
                "rest 0" + by + Math.floorMod(-4294967295L, p));
        }
        // 2^31 is 1 modulo 2147483647, and 2^20000 is 2^5 as 20000 is 31 * 645 + 5.
        run("make 0 " + MOST, "rest 0 2147483647 = 31", "rest 0 1 = 0", "rest 0 2 = 1", "rest 0 3 = 0", "rest 0 5 = 0",
            "rest 0 1073741824 = 1073741823", "rest 0 2147483646", "rest 0 7 = 3", "value 0 = 2^20000-1", "negate 0",
            "rest 0 2147483647 = 2147483616", "rest 0 1 = 0", "rest 0 2 = 1", "rest 0 3 = 0", "rest 0 5 = 0",
            "rest 0 1073741824 = 1", "rest 0 2147483646", "rest 0 7 = 4", "value 0 = -2^20000+1", "make 1 2^19999",
            "rest 1 2147483647 = 16", "negate 1", "rest 1 2147483647 = 2147483631", "rest 1 1073741824 = 0",
            "make 2 2^64-1", "rest 2 2147483647 = 3", "negate 2", "rest 2 2147483647 = 2147483644");
    }

    private void restRefuses() {
        due.sentence("Promise 19: rest", "IndexOutOfBoundsException; IllegalArgumentException: p is below 1.");
        run("set 0 6", "set 23 -6", "print 23", "rest 0 0" + ARGUMENT, "rest 0 -1" + ARGUMENT, "rest 5 0" + ARGUMENT,
            "rest 23 0" + ARGUMENT, "rest 23 -5" + ARGUMENT, "rest 0 -2147483648" + ARGUMENT,
            "rest 0 -2147483647" + ARGUMENT).nowhere("rest", 1, " 7");
        run("make 0 " + MOST, "print 0", "rest 0 0" + ARGUMENT, "rest 0 -1" + ARGUMENT, "rest 0 -2147483648" + ARGUMENT)
            .nowhere("rest", 1, " 0").nowhere("rest", 1, " -2147483648");
    }

    private static final String PRINTED =
        "The number is printed, in decimal digits, - before them below 0: how many characters.";

    private void printAnswers() {
        due.sentence("Promise 20: print", PRINTED);
        long[] values = {0, 1, -1, 9, -9, 10, -10, 99, 100, 2147483647, 2147483648L, -2147483648L, 4294967295L, 4294967296L,
            -4294967295L, 999999999, 1000000000, 1000000001, -999999999, -1000000000, 9999999999L, 10000000000L,
            999999999999999999L, 1000000000000000000L, 1000000000000000001L, -1000000000000000000L, 1000000000000000000L,
            100000000000L, 1000000000000009L, Long.MAX_VALUE, Long.MIN_VALUE};
        for (long value : values) {
            run("set 0 " + value, "print 0 = " + Long.toString(value).length(), "text 0 = " + value, "value 0 = " + value);
        }
        run("negate 0", "print 0 = 1", "text 0 = 0", "set 1 -7", "subtract 1 1 1", "print 1 = 1", "text 1 = 0", "print 23 = 1",
            "set 23 -12", "print 23 = 3", "text 23 = -12");
        run("make 0 2^64", "text 0 = 18446744073709551616", "make 0 -2^64+1", "text 0 = -18446744073709551615",
            "make 0 2^96-1", "text 0 = 79228162514264337593543950335");
        run("make 0 " + MOST, "print 0 = 6021", "character 0 = 51", "character 6020 = 53", "character 6021 = -1",
            "value 0 = 2^20000-1", "negate 0", "print 0 = 6022", "character 0 = 45", "character 1 = 51",
            "character 6021 = 53", "character 6022 = -1");
    }

    /** A power of ten and its neighbours, at the ends of what a machine's number holds and at 20000 bits. */
    private void printInnerZeros() {
        due.sentence("Promise 20: print", PRINTED);
        for (int zeros : new int[] {8, 9, 10, 17, 18, 19, 20, 26, 27, 28, 36, 37, 100}) {
            run("make 0 10^" + zeros, "text 0 = 1" + "0".repeat(zeros), "make 0 10^" + zeros + "-1",
                "text 0 = " + "9".repeat(zeros), "make 0 -10^" + zeros + "-1",
                "text 0 = -1" + "0".repeat(zeros - 1) + "1");
        }
        run("make 0 10^6020", "length 0 = 19999", "print 0 = 6021", "character 0 = 49", "character 1 = 48",
            "character 9 = 48", "character 3000 = 48", "character 6019 = 48", "character 6020 = 48", "character 6021 = -1",
            "make 1 10^6020-1", "print 1 = 6020", "character 0 = 57", "character 1 = 57", "character 3000 = 57",
            "character 6019 = 57", "character 6020 = -1", "negate 1", "print 1 = 6021", "character 0 = 45",
            "character 1 = 57", "character 6020 = 57", "character 6021 = -1", "make 2 -10^6020", "print 2 = 6022",
            "character 0 = 45", "character 1 = 49", "character 2 = 48", "character 6021 = 48", "character 6022 = -1");
    }

    private void printRefuses() {
        due.sentence("Promise 20: print", "IndexOutOfBoundsException.");
        run("set 0 6").nowhere("print", 1, "");
        run("set 0 6", "set 23 -60", "print 23").nowhere("print", 1, "").rows("character 0 = 45", "character 2 = 48",
            "character 3 = -1");
    }

    private void characterAnswers() {
        due.sentence("Promise 21: character", "Character i of what was printed latest; NONE when there is none.");
        run("character 0 = -1", "set 0 75", "character 0 = -1", "print 0 = 2", "character -2147483648 = -1",
            "character -1 = -1", "character 0 = 55", "character 1 = 53", "character 2 = -1", "character 3 = -1",
            "character 2147483647 = -1", "character 2147483646 = -1",
            // What was printed stays as it was printed, whatever becomes of the register.
            "set 0 -8", "character 0 = 55", "character 1 = 53", "set 1 4", "character 0 = 55", "print 1 = 1",
            "character 0 = 52", "character 1 = -1", "print 24" + INDEX, "character 0 = 52", "print 0 = 2",
            "character 0 = 45", "character 1 = 56", "character 2 = -1", "character -1 = -1", "print 9 = 1",
            "character 0 = 48", "character 1 = -1", "character -1 = -1");
        run("make 0 " + LEAST, "print 0 = 6022", "character -1 = -1", "character 0 = 45", "character 1 = 51",
            "character 6021 = 53", "character 6022 = -1", "character 6023 = -1", "character 2147483647 = -1",
            "character -2147483648 = -1", "set 0 1", "character 6021 = 53", "print 0 = 1", "character 0 = 49",
            "character 1 = -1", "character 6020 = -1", "character 6021 = -1", "character -1 = -1");
        // Every digit, and the character next to it on either side.
        run("set 0 -9876543210", "text 0 = -9876543210", "character 10 = 48", "character 11 = -1", "character -1 = -1",
            "set 0 1234567890", "text 0 = 1234567890", "character 9 = 48", "character 10 = -1");
    }
}
