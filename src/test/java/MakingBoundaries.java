/** The boundary cases of promises 1 to 10: new objects, and the calls that make numbers without dividing. */
final class MakingBoundaries {
    private static final String INDEX = Run.INDEX;
    private static final String LONGER = Run.LONGER;
    private static final String MOST = Run.MOST;
    private static final String LEAST = Run.LEAST;
    private static final String BOTH_EXCEPTIONS = "IndexOutOfBoundsException, UnsupportedOperationException.";

    private final Due due;

    private MakingBoundaries(Due due) {
        this.due = due;
    }

    static void look(Due due) {
        MakingBoundaries all = new MakingBoundaries(due);
        all.newObject();
        all.setMakes();
        all.setRefuses();
        all.pushWithoutSign();
        all.pushLongest();
        all.pushRefuses();
        all.copyMakes();
        all.copyRefuses();
        all.swapMakes();
        all.swapRefuses();
        all.negateMakes();
        all.negateRefuses();
        all.addMakes();
        all.addRefuses();
        all.subtractMakes();
        all.subtractRefuses();
        all.multiplyMakes();
        all.multiplyRefuses();
        all.addProductMakes();
        all.addProductOutcomeAlone();
        all.addProductRefuses();
    }

    private Run run(String... rows) {
        return new Run(due, rows);
    }

    private void newObject() {
        due.sentence("Promise 1: A new object", "All registers 0, nothing printed.");
        for (int turn = 0; turn < 2; turn++) {
            // The second time after another object has been used: nothing of it may be seen here.
            Run run = run("character 0 = -1", "character -1 = -1", "character 1 = -1", "character 6021 = -1",
                "character -2147483648 = -1", "character 2147483647 = -1");
            for (int r = 0; r < 24; r++) {
                run.rows("sign " + r + " = 0", "length " + r + " = 0", "limb " + r + " 0 = 0", "limb " + r + " 624 = 0",
                    "compare " + r + " 0 = 0", "compare 23 " + r + " = 0", "rest " + r + " 2147483647 = 0");
            }
            run.rows("character 0 = -1", "text 23 = 0", "make 5 " + MOST, "print 5 = 6021", "character 0 = 51");
        }
    }

    private void setMakes() {
        due.sentence("Promise 2: set", "The register becomes v.");
        run("set 0 0 = 0", "text 0 = 0", "set 0 -1 = 1", "text 0 = -1", "set 0 1 = 1", "text 0 = 1",
            "set 0 9223372036854775807 = 63", "text 0 = 9223372036854775807",
            "set 0 -9223372036854775808 = 64", "text 0 = -9223372036854775808", "limb 0 0 = 0", "limb 0 1 = -2147483648",
            "set 0 -9223372036854775807 = 63", "text 0 = -9223372036854775807",
            "set 0 4294967295 = 32", "limb 0 0 = -1", "limb 0 1 = 0", "set 0 4294967296 = 33", "limb 0 0 = 0",
            "limb 0 1 = 1", "set 0 -4294967295 = 32", "limb 0 0 = -1", "text 0 = -4294967295",
            "set 0 -4294967296 = 33", "text 0 = -4294967296", "set 0 2147483648 = 32", "text 0 = 2147483648",
            "set 0 -2147483648 = 32", "text 0 = -2147483648", "set 0 0 = 0", "sign 0 = 0", "compare 0 1 = 0");
        // Over the longest numbers nothing of them is left.
        run("make 0 " + LEAST, "set 0 5 = 3", "limb 0 0 = 5", "limb 0 1 = 0", "limb 0 624 = 0", "sign 0 = 1", "text 0 = 5",
            "make 0 " + LEAST, "set 0 0 = 0", "sign 0 = 0", "text 0 = 0", "limb 0 0 = 0");
        run("set 23 7 = 3", "value 23 = 7", "value 22 = 0", "set 0 8 = 4", "value 0 = 8", "value 1 = 0", "value 23 = 7");
    }

    private void setRefuses() {
        due.sentence("Promise 2: set", "IndexOutOfBoundsException.");
        run("set 0 5", "set 23 -7", "print 23").nowhere("set", 1, " 9").nowhere("set", 1, " -9223372036854775808");
    }

    private void pushWithoutSign() {
        due.sentence("Promise 3: push",
            "2^32 times the number, and v without a sign (for numbers below 0: and less it).");
        // On 0, which is not below 0, also where it was made so from both sides.
        run("push 0 0 = 0", "sign 0 = 0", "push 0 -1 = 32", "value 0 = 2^32-1", "push 0 -1 = 64", "value 0 = 2^64-1",
            "push 0 -2147483648 = 96", "value 0 = 2^96-2^32+2^31", "push 0 0 = 128", "value 0 = 2^128-2^64+2^63",
            "set 1 -5", "set 2 5", "add 1 1 2 = 0", "push 1 -1 = 32", "text 1 = 4294967295",
            "negate 3 = 0", "push 3 2147483647 = 31", "text 3 = 2147483647",
            "push 4 -2147483648 = 32", "text 4 = 2147483648", "push 5 1 = 1", "text 5 = 1");
        run("set 0 -5", "push 0 0 = 35", "text 0 = -21474836480", "set 0 -5", "push 0 -1 = 35", "text 0 = -25769803775",
            "set 0 -5", "push 0 1 = 35", "text 0 = -21474836481", "set 0 -5", "push 0 -2147483648 = 35",
            "text 0 = -23622320128", "set 0 -5", "push 0 2147483647 = 35", "text 0 = -23622320127");
        run("set 0 5", "push 0 0 = 35", "text 0 = 21474836480", "set 0 5", "push 0 -1 = 35", "text 0 = 25769803775",
            "set 0 5", "push 0 1 = 35", "text 0 = 21474836481", "set 0 5", "push 0 -2147483648 = 35",
            "text 0 = 23622320128", "set 0 5", "push 0 2147483647 = 35", "text 0 = 23622320127");
        run("set 0 -9223372036854775808", "push 0 -1 = 96", "value 0 = -2^95-2^32+1", "limb 0 0 = -1", "limb 0 1 = 0",
            "limb 0 2 = -2147483648", "set 1 -4294967295", "push 1 -1 = 64", "value 1 = -2^64+1");
    }

    private void pushLongest() {
        due.sentence("Promise 3: push",
            "2^32 times the number, and v without a sign (for numbers below 0: and less it).");
        run("make 0 2^19968-1", "copy 1 0", "negate 1", "copy 2 0", "push 0 -1 = 20000", "push 1 -1 = 20000",
            "push 2 0 = 20000", "make 3 " + MOST, "compare 0 3 = 0", "value 0 = 2^20000-1", "value 1 = -2^20000+1",
            "value 2 = 2^20000-2^32", "limb 2 0 = 0", "limb 2 1 = -1", "limb 2 624 = -1", "limb 2 625 = 0",
            "make 4 2^19967", "push 4 0 = 20000", "value 4 = 2^19999", "make 5 -2^19967", "push 5 1 = 20000",
            "value 5 = -2^19999-1");
    }

    private void pushRefuses() {
        due.sentence("Promise 3: push", BOTH_EXCEPTIONS);
        run("set 0 5", "print 0").nowhere("push", 1, " 0").nowhere("push", 1, " -1");
        run("make 0 2^19968", "make 1 -2^19968", "make 2 " + MOST, "make 3 " + LEAST, "set 5 -77", "print 5",
            "push 0 0" + LONGER, "push 0 -1" + LONGER, "push 1 0" + LONGER, "push 1 -1" + LONGER, "push 2 0" + LONGER,
            "push 3 -1" + LONGER, "push 24 0" + INDEX, "push -1 -1" + INDEX);
    }

    private void copyMakes() {
        due.sentence("Promise 4: copy", "One becomes what another one is.");
        run("set 0 -12", "copy 1 0 = 4", "value 1 = -12", "set 0 5", "value 1 = -12", "copy 1 0 = 3", "push 1 7",
            "value 0 = 5", "value 1 = 5*2^32+7", "copy 1 9 = 0", "value 1 = 0", "copy 0 0 = 3", "value 0 = 5",
            "copy 9 9 = 0", "value 9 = 0", "copy 23 0 = 3", "copy 0 23 = 3", "value 23 = 5");
        run("make 0 " + LEAST, "copy 1 0 = 20000", "compare 0 1 = 0", "negate 0 = 20000", "value 1 = -2^20000+1",
            "value 0 = 2^20000-1", "copy 1 1 = 20000", "value 1 = -2^20000+1", "set 2 3", "copy 1 2 = 2", "value 1 = 3",
            "limb 1 1 = 0", "limb 1 624 = 0", "copy 2 0 = 20000", "value 2 = 2^20000-1", "copy 0 5 = 0", "sign 0 = 0",
            "value 0 = 0", "value 2 = 2^20000-1");
    }

    private void copyRefuses() {
        due.sentence("Promise 4: copy", "IndexOutOfBoundsException.");
        run("set 0 5", "set 1 -6", "print 1").nowhere("copy", 2, "");
    }

    private void swapMakes() {
        due.sentence("Promise 5: swap", "Both change places: the length of what a is then.");
        run("set 0 -12", "set 1 1", "swap 0 1 = 1", "value 0 = 1", "value 1 = -12", "swap 1 0 = 1", "value 0 = -12",
            "value 1 = 1", "swap 0 0 = 4", "value 0 = -12", "swap 0 9 = 0", "value 0 = 0", "value 9 = -12",
            "swap 0 9 = 4", "swap 9 0 = 4", "swap 7 8 = 0", "swap 8 8 = 0", "value 7 = 0", "swap 23 9 = 4",
            "value 23 = -12", "value 9 = 0", "swap 0 23 = 4");
        run("make 0 " + MOST, "make 1 " + LEAST, "set 2 3", "swap 0 1 = 20000", "value 0 = -2^20000+1",
            "value 1 = 2^20000-1", "swap 0 2 = 2", "value 0 = 3", "value 2 = -2^20000+1", "swap 2 5 = 0", "value 2 = 0",
            "value 5 = -2^20000+1", "swap 5 5 = 20000", "value 5 = -2^20000+1", "set 5 9", "value 1 = 2^20000-1");
    }

    private void swapRefuses() {
        due.sentence("Promise 5: swap", "IndexOutOfBoundsException.");
        run("set 0 5", "set 1 -6", "print 1").nowhere("swap", 2, "");
    }

    private void negateMakes() {
        due.sentence("Promise 6: negate", "The number below 0 by as much.");
        run("negate 0 = 0", "sign 0 = 0", "compare 0 1 = 0", "compare 1 0 = 0", "text 0 = 0", "set 1 1", "negate 1 = 1",
            "value 1 = -1", "negate 1 = 1", "value 1 = 1", "set 2 -9223372036854775808", "negate 2 = 64",
            "text 2 = 9223372036854775808", "negate 2 = 64", "text 2 = -9223372036854775808", "set 23 5", "negate 23 = 3",
            "value 23 = -5", "value 22 = 0", "set 3 -4", "subtract 3 3 3", "negate 3 = 0", "sign 3 = 0", "text 3 = 0",
            "negate 3 = 0", "compare 3 4 = 0");
        run("make 0 " + MOST, "negate 0 = 20000", "value 0 = -2^20000+1", "copy 1 0", "negate 0 = 20000",
            "value 0 = 2^20000-1", "value 1 = -2^20000+1");
    }

    private void negateRefuses() {
        due.sentence("Promise 6: negate", "IndexOutOfBoundsException.");
        run("set 0 5", "set 23 -6", "print 23").nowhere("negate", 1, "");
    }

    private void addMakes() {
        due.sentence("Promise 7: add", "a + b.");
        run("add 0 1 2 = 0", "sign 0 = 0", "set 1 -7", "add 0 1 2 = 3", "value 0 = -7", "add 0 2 1 = 3", "value 0 = -7",
            "set 2 7", "add 0 1 2 = 0", "sign 0 = 0", "text 0 = 0", "add 0 2 1 = 0", "compare 0 9 = 0", "add 0 2 2 = 4",
            "value 0 = 14", "add 0 1 1 = 4", "value 0 = -14", "set 1 4294967295", "set 2 1", "add 0 1 2 = 33",
            "value 0 = 2^32", "add 0 1 1 = 33", "value 0 = 2^33-2", "set 1 -4294967296", "add 0 1 2 = 32",
            "value 0 = -2^32+1", "set 2 -1", "add 0 1 2 = 33", "value 0 = -2^32-1");
        // A carry and a borrow through every limb.
        run("make 0 2^19999-1", "set 1 1", "set 2 -1", "add 3 0 1 = 20000", "value 3 = 2^19999", "add 4 3 2 = 19999",
            "compare 4 0 = 0", "make 5 2^19968-1", "add 5 1 5 = 19969", "value 5 = 2^19968", "limb 5 624 = 1",
            "add 5 2 5 = 19968", "value 5 = 2^19968-1", "limb 5 623 = -1", "limb 5 624 = 0", "negate 5",
            "add 5 5 2 = 19969", "value 5 = -2^19968", "add 5 5 1 = 19968", "value 5 = -2^19968+1");
        // Full: the longest with 0, with its other sign, and sums that are just not too long.
        run("make 0 " + MOST, "copy 1 0", "negate 1", "add 2 0 3 = 20000", "value 2 = 2^20000-1", "add 2 3 1 = 20000",
            "value 2 = -2^20000+1", "add 2 0 1 = 0", "value 2 = 0", "set 3 -1", "add 4 0 3 = 20000",
            "value 4 = 2^20000-2", "set 3 1", "add 4 4 3 = 20000", "compare 4 0 = 0", "add 5 1 3 = 20000",
            "value 5 = -2^20000+2", "make 6 2^19999", "make 7 2^19999-1", "add 8 6 7 = 20000", "compare 8 0 = 0",
            "negate 6", "negate 7", "add 8 6 7 = 20000", "compare 8 1 = 0", "add 9 0 6 = 19999", "value 9 = 2^19999-1");
    }

    private void addRefuses() {
        due.sentence("Promise 7: add", BOTH_EXCEPTIONS);
        run("set 0 5", "set 1 -6", "set 2 7", "print 1").nowhere("add", 3, "");
        run("make 0 " + MOST, "make 1 " + LEAST, "make 2 2^19999", "make 3 -2^19999", "set 4 1", "set 5 -1", "print 5",
            "add 6 0 4" + LONGER, "add 6 4 0" + LONGER, "add 0 0 4" + LONGER, "add 4 0 4" + LONGER, "add 6 0 0" + LONGER,
            "add 0 0 0" + LONGER, "add 6 1 5" + LONGER, "add 1 5 1" + LONGER, "add 6 1 1" + LONGER, "add 6 2 2" + LONGER,
            "add 6 3 3" + LONGER, "add 24 0 4" + INDEX, "add -1 1 5" + INDEX, "add 0 0 24" + INDEX, "add 0 24 0" + INDEX);
    }

    private void subtractMakes() {
        due.sentence("Promise 8: subtract", "a - b.");
        run("subtract 0 1 2 = 0", "sign 0 = 0", "set 1 -7", "subtract 0 1 2 = 3", "value 0 = -7", "subtract 0 2 1 = 3",
            "value 0 = 7", "subtract 0 1 1 = 0", "sign 0 = 0", "text 0 = 0", "set 2 -7", "subtract 0 1 2 = 0",
            "compare 0 9 = 0", "set 2 7", "subtract 0 1 2 = 4", "value 0 = -14", "subtract 0 2 1 = 4", "value 0 = 14",
            "set 1 4294967296", "set 2 1", "subtract 0 1 2 = 32", "value 0 = 2^32-1", "subtract 0 2 1 = 32",
            "value 0 = -2^32+1", "set 1 4294967295", "set 2 -1", "subtract 0 1 2 = 33", "value 0 = 2^32",
            "subtract 0 2 1 = 33", "value 0 = -2^32");
        run("make 0 2^19999", "set 1 1", "set 2 -1", "subtract 3 0 1 = 19999", "value 3 = 2^19999-1",
            "subtract 4 1 0 = 19999", "value 4 = -2^19999+1", "subtract 5 4 1 = 20000", "value 5 = -2^19999",
            "subtract 5 3 2 = 20000", "compare 5 0 = 0", "make 6 2^19968", "subtract 6 6 1 = 19968",
            "value 6 = 2^19968-1", "limb 6 624 = 0", "limb 6 623 = -1", "subtract 6 6 2 = 19969", "value 6 = 2^19968");
        // Where the highest limbs take each other away.
        run("make 0 2^19999+5", "make 1 2^19999+3", "subtract 2 0 1 = 2", "value 2 = 2", "limb 2 1 = 0",
            "subtract 2 1 0 = 2", "value 2 = -2", "copy 3 0", "subtract 2 0 3 = 0", "sign 2 = 0", "value 2 = 0",
            "make 4 2^19999+2^64", "subtract 2 4 0 = 64", "value 2 = 2^64-5", "subtract 2 0 4 = 64",
            "value 2 = -2^64+5");
        run("make 0 " + MOST, "copy 1 0", "negate 1", "subtract 2 0 3 = 20000", "value 2 = 2^20000-1",
            "subtract 2 3 0 = 20000", "value 2 = -2^20000+1", "subtract 2 0 0 = 0", "value 2 = 0", "subtract 2 1 1 = 0",
            "value 2 = 0", "set 3 1", "subtract 2 0 3 = 20000", "value 2 = 2^20000-2", "set 3 -1",
            "subtract 2 1 3 = 20000", "value 2 = -2^20000+2", "make 4 2^19999", "make 5 -2^19999+1",
            "subtract 6 4 5 = 20000", "compare 6 0 = 0", "subtract 6 5 4 = 20000", "compare 6 1 = 0");
    }

    private void subtractRefuses() {
        due.sentence("Promise 8: subtract", BOTH_EXCEPTIONS);
        run("set 0 5", "set 1 -6", "set 2 7", "print 1").nowhere("subtract", 3, "");
        run("make 0 " + MOST, "make 1 " + LEAST, "make 2 2^19999", "make 3 -2^19999", "set 4 1", "set 5 -1", "print 5",
            "subtract 6 0 5" + LONGER, "subtract 0 0 5" + LONGER, "subtract 5 0 5" + LONGER, "subtract 6 1 4" + LONGER,
            "subtract 1 1 4" + LONGER, "subtract 6 4 1" + LONGER, "subtract 6 5 0" + LONGER, "subtract 6 0 1" + LONGER,
            "subtract 6 1 0" + LONGER, "subtract 6 2 3" + LONGER, "subtract 6 3 2" + LONGER, "subtract 24 0 5" + INDEX,
            "subtract -1 1 4" + INDEX, "subtract 0 0 24" + INDEX, "subtract 0 24 5" + INDEX);
    }

    private void multiplyMakes() {
        due.sentence("Promise 9: multiply", "a * b.");
        run("multiply 0 1 2 = 0", "sign 0 = 0", "set 1 -7", "multiply 0 1 2 = 0", "sign 0 = 0", "text 0 = 0",
            "multiply 0 2 1 = 0", "compare 0 9 = 0", "set 2 5", "multiply 0 1 2 = 6", "value 0 = -35",
            "multiply 0 2 1 = 6", "value 0 = -35", "multiply 0 1 1 = 6", "value 0 = 49", "set 2 -5", "multiply 0 1 2 = 6",
            "value 0 = 35", "set 1 4294967295", "multiply 0 1 1 = 64", "value 0 = 2^64-2^33+1", "multiply 0 0 0 = 128",
            "value 0 = 2^128-2^98+6*2^64-2^34+1", "set 1 -9223372036854775808", "multiply 0 1 1 = 127",
            "value 0 = 2^126", "set 2 -1", "multiply 0 1 2 = 64", "value 0 = 2^63", "set 2 1", "multiply 0 2 1 = 64",
            "value 0 = -2^63", "set 1 -4294967296", "multiply 0 1 1 = 65", "value 0 = 2^64");
        run("make 0 " + MOST, "set 1 1", "set 2 -1", "multiply 3 0 1 = 20000", "value 3 = 2^20000-1",
            "multiply 3 2 0 = 20000", "value 3 = -2^20000+1", "multiply 3 3 2 = 20000", "compare 3 0 = 0",
            "multiply 3 0 4 = 0", "sign 3 = 0", "multiply 3 4 0 = 0", "value 3 = 0", "negate 0", "multiply 3 0 4 = 0",
            "sign 3 = 0", "text 3 = 0", "make 5 2^19998", "set 6 2", "multiply 5 5 6 = 20000", "value 5 = 2^19999");
        // The lengths of the factors together are 20000 and 20001.
        run("make 0 2^10000-1", "make 1 2^10000+1", "make 2 2^10000", "make 3 2^9999", "multiply 4 0 0 = 20000",
            "value 4 = 2^20000-2*2^10000+1", "multiply 4 0 1 = 20000", "value 4 = 2^20000-1", "limb 4 624 = -1",
            "multiply 4 2 3 = 20000", "value 4 = 2^19999", "multiply 4 3 2 = 20000", "negate 2",
            "multiply 4 3 2 = 20000", "value 4 = -2^19999", "multiply 4 2 0 = 20000", "value 4 = -2^20000+2^10000",
            "multiply 4 3 3 = 19999", "value 4 = 2^19998", "limb 4 0 = 0");
    }

    private void multiplyRefuses() {
        due.sentence("Promise 9: multiply", BOTH_EXCEPTIONS);
        run("set 0 5", "set 1 -6", "set 2 7", "print 1").nowhere("multiply", 3, "");
        run("make 0 2^10000", "make 1 2^10000-1", "make 2 2^10000+2", "make 3 -2^10000", "set 5 -8", "print 5",
            "multiply 4 0 0" + LONGER, "multiply 0 0 0" + LONGER, "multiply 4 1 2" + LONGER, "multiply 4 2 1" + LONGER,
            "multiply 2 2 2" + LONGER, "multiply 4 0 3" + LONGER, "multiply 4 3 3" + LONGER, "multiply 24 0 0" + INDEX,
            "multiply 0 24 0" + INDEX, "multiply 0 0 -1" + INDEX);
        run("make 0 " + MOST, "make 1 " + LEAST, "make 2 2^19999", "set 3 2", "set 4 -2", "set 5 -8", "print 5",
            "multiply 6 0 3" + LONGER, "multiply 6 3 0" + LONGER, "multiply 6 1 3" + LONGER, "multiply 6 1 4" + LONGER,
            "multiply 6 2 3" + LONGER, "multiply 6 4 2" + LONGER, "multiply 6 0 0" + LONGER, "multiply 0 0 0" + LONGER,
            "multiply 1 0 1" + LONGER, "multiply 3 2 3" + LONGER, "multiply 24 0 0" + INDEX, "multiply -1 0 3" + INDEX);
    }

    private static final String ADD_PRODUCT =
        "a * b comes to what is there, or is taken away (what comes of it alone must not be longer than 20000).";

    private void addProductMakes() {
        due.sentence("Promise 10: addProduct", ADD_PRODUCT);
        for (String away : new String[] {"false", "true"}) {
            run("addProduct 0 1 2 " + away + " = 0", "sign 0 = 0", "set 1 9", "addProduct 0 1 2 " + away + " = 0",
                "sign 0 = 0", "addProduct 0 2 1 " + away + " = 0", "text 0 = 0", "set 0 -5",
                "addProduct 0 1 2 " + away + " = 3", "value 0 = -5", "addProduct 0 2 2 " + away + " = 3", "value 0 = -5");
        }
        run("set 1 -7", "set 2 5", "addProduct 0 1 2 false = 6", "value 0 = -35", "addProduct 0 1 2 true = 0", "sign 0 = 0",
            "text 0 = 0", "addProduct 0 1 2 true = 6", "value 0 = 35", "addProduct 0 1 2 false = 0", "compare 0 9 = 0",
            "addProduct 0 1 1 false = 6", "value 0 = 49", "addProduct 0 1 1 true = 0", "addProduct 0 1 1 true = 6",
            "value 0 = -49", "set 1 4294967295", "set 0 4294967295", "addProduct 0 1 1 false = 64",
            "value 0 = 2^64-2^32", "set 0 -1", "addProduct 0 1 1 true = 64", "value 0 = -2^64+2^33-2");
        // A carry and a borrow through every limb, up and down.
        run("make 0 2^19999-1", "set 1 1", "set 2 -1", "addProduct 0 1 1 false = 20000", "value 0 = 2^19999",
            "addProduct 0 2 2 true = 19999", "value 0 = 2^19999-1", "addProduct 0 1 2 true = 20000",
            "addProduct 0 1 2 false = 19999", "negate 0", "addProduct 0 2 1 false = 20000", "value 0 = -2^19999",
            "addProduct 0 2 1 true = 19999", "value 0 = -2^19999+1");
        run("make 0 2^10000-1", "make 1 2^10000+1", "make 2 " + LEAST, "addProduct 2 0 1 false = 0", "sign 2 = 0",
            "addProduct 2 0 1 false = 20000", "value 2 = 2^20000-1", "addProduct 2 0 1 true = 0", "value 2 = 0",
            "addProduct 2 1 0 true = 20000", "value 2 = -2^20000+1", "addProduct 2 0 9 true = 20000",
            "value 2 = -2^20000+1");
    }

    /** Products that are longer than 20000 themselves, where what comes of it is not. */
    private void addProductOutcomeAlone() {
        due.sentence("Promise 10: addProduct", ADD_PRODUCT);
        run("make 0 2^10000", "make 1 " + MOST, "set 5 -3", "print 5", "addProduct 2 0 0 false" + LONGER,
            "addProduct 2 0 0 true" + LONGER, "addProduct 1 0 0 false" + LONGER, "copy 2 1",
            "addProduct 2 0 0 true = 1", "value 2 = -1", "addProduct 2 0 0 true" + LONGER,
            "addProduct 2 0 0 false = 20000", "compare 2 1 = 0", "negate 2", "addProduct 2 0 0 true" + LONGER,
            "addProduct 2 0 0 false = 1", "value 2 = 1", "addProduct 2 0 0 false" + LONGER,
            "addProduct 2 0 0 true = 20000", "value 2 = -2^20000+1");
        // -2^20000 is too long by one, its neighbour is not.
        run("make 0 2^19999", "make 1 2^19999+1", "make 2 -2^19999", "set 3 3", "set 5 -3", "print 5",
            "addProduct 0 0 3 true" + LONGER, "addProduct 2 0 3 false" + LONGER, "addProduct 1 0 3 true = 20000",
            "value 1 = -2^20000+1", "addProduct 1 0 3 true" + LONGER, "addProduct 1 0 3 false = 20000",
            "value 1 = 2^19999+1", "addProduct 1 2 3 false = 20000", "value 1 = -2^20000+1");
        run("make 0 " + MOST, "copy 1 0", "set 2 2", "addProduct 1 0 2 true = 20000", "value 1 = -2^20000+1",
            "addProduct 1 0 2 false = 20000", "compare 1 0 = 0", "set 2 -2", "addProduct 1 2 0 false = 20000",
            "value 1 = -2^20000+1", "addProduct 1 2 0 true = 20000", "addProduct 0 0 2 false = 20000",
            "value 0 = -2^20000+1", "set 2 1", "addProduct 0 0 2 true = 0", "value 0 = 0");
        // 7 times this is 2^20001 - 1, one more than twice the greatest number: what is left of it is too long by one.
        run("make 0 2^19998-1", "set 1 7", "exact 0 0 1", "set 2 8", "multiply 0 0 2", "set 2 1", "add 0 0 2 = 19999",
            "make 3 " + MOST, "addProduct 3 0 1 true" + LONGER, "negate 3", "addProduct 3 0 1 false" + LONGER,
            "addProduct 3 0 1 true" + LONGER);
    }

    private void addProductRefuses() {
        due.sentence("Promise 10: addProduct", BOTH_EXCEPTIONS);
        run("set 0 5", "set 1 -6", "set 2 7", "print 1").nowhere("addProduct", 3, " false").nowhere("addProduct", 3, " true");
        run("make 0 " + MOST, "make 1 " + LEAST, "make 2 2^10001", "set 3 1", "set 4 -1", "set 5 -8", "print 5",
            "addProduct 0 3 3 false" + LONGER, "addProduct 0 3 4 true" + LONGER, "addProduct 1 3 3 true" + LONGER,
            "addProduct 1 3 4 false" + LONGER, "addProduct 0 2 2 true" + LONGER, "addProduct 1 2 2 false" + LONGER,
            "addProduct 6 2 2 true" + LONGER, "addProduct 6 0 0 false" + LONGER, "addProduct 0 0 0 true" + LONGER,
            "addProduct 1 0 1 true" + LONGER, "addProduct 0 0 3 false" + LONGER, "addProduct 3 0 2 false" + LONGER,
            "addProduct 24 0 0 false" + INDEX, "addProduct 0 -1 0 true" + INDEX, "addProduct 0 0 24 false" + INDEX);
    }
}
