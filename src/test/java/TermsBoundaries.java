import java.util.Random;

/** The boundary cases of "What it is" and "Terms", which bear on every promise. */
final class TermsBoundaries {
    private static final String INDEX = Run.INDEX;
    private static final String LONGER = Run.LONGER;
    private static final String ARGUMENT = Run.ARGUMENT;
    private static final String ARITHMETIC = Run.ARITHMETIC;
    private static final String MOST = Run.MOST;
    private static final String LEAST = Run.LEAST;
    private static final String[] THREE_PLACES = {"add", "subtract", "multiply", "addProduct", "exact", "nearest", "gcd"};
    // A look at every register takes five calls for each.
    private static final int LOOK = 24 * 5;

    private final Due due;

    private TermsBoundaries(Due due) {
        this.due = due;
    }

    static void look(Due due) {
        TermsBoundaries all = new TermsBoundaries(due);
        all.registers();
        all.lengths();
        all.limbs();
        all.lengthsAnswered();
        all.sameRegisterShort();
        all.sameRegisterLong();
        all.callAfterCall();
        all.refusedWhenFull();
        all.firstNamedException();
        all.noSuchRegister();
        all.longerThan20000();
        all.fullInTheMiddle();
        all.fullBySmallNumbers();
        all.lastOf512Calls();
    }

    private Run run(String... rows) {
        return new Run(due, rows);
    }

    private static String away(String call) {
        return call.equals("addProduct") ? " true" : "";
    }

    private void registers() {
        due.sentence("Terms", "There are 24 REGISTERS, 0 .. 23, each with a WHOLE NUMBER, 0 at first.");
        Run run = run();
        for (int r = 0; r < 24; r++) {
            run.rows("length " + r + " = 0", "sign " + r + " = 0", "set " + r + " " + (r % 2 == 0 ? r + 1 : -r - 1));
        }
        run.everything().rows("value 0 = 1", "value 23 = -24", "set 11 0", "value 10 = 11", "value 11 = 0", "value 12 = 13");
        for (String call : THREE_PLACES) {
            run("set 0 12", "set 23 4", call + " 23 0 23" + away(call)).values(0, 23, 22)
                .rows("set 23 4", call + " 0 0 23" + away(call)).values(0, 23, 1);
        }
        run("set 0 17", "set 23 5", "divide 23 0 0 23 = 2", "value 23 = 3", "value 0 = 2", "divide 0 23 23 0 = 1",
            "value 0 = 1", "value 23 = 1", "push 23 4", "push 0 4", "swap 0 23", "copy 0 23", "negate 23", "compare 0 23 = 1",
            "compare 23 0 = -1", "limb 23 1 = 1", "limb 0 0 = 4", "print 23 = 11", "rest 23 5 = 0");
    }

    private void lengths() {
        due.sentence("Terms", "The LENGTH of a number is how many bits its size has (0 for 0), at most 20000.");
        run("length 0 = 0", "set 0 0 = 0", "set 0 1 = 1", "set 0 -1 = 1", "set 0 255 = 8", "set 0 -256 = 9", "length 0 = 9");
        for (int bits : new int[] {31, 32, 33, 63, 64, 65, 96, 9999, 19967, 19968, 19969, 19999}) {
            run("make 0 2^" + bits + "-1", "length 0 = " + bits, "copy 1 0 = " + bits, "negate 0 = " + bits,
                "length 0 = " + bits, "make 2 2^" + bits, "length 2 = " + (bits + 1), "negate 2 = " + (bits + 1));
        }
        run("make 0 " + MOST, "length 0 = 20000", "set 1 1", "add 2 0 1" + LONGER, "subtract 0 0 1 = 20000",
            "add 0 0 1 = 20000", "negate 0 = 20000", "subtract 0 0 1" + LONGER, "length 0 = 20000");
    }

    private void limbs() {
        due.sentence("Terms", "The LIMBS of a number are its size's 32-bit digits, the lowest is 0.");
        Run run = run("set 0 -1", "push 0 2", "push 0 -3", "push 0 0", "limb 0 0 = 0", "limb 0 1 = -3", "limb 0 2 = 2",
            "limb 0 3 = 1", "limb 0 4 = 0", "negate 0", "limb 0 0 = 0", "limb 0 1 = -3", "limb 0 2 = 2", "limb 0 3 = 1");
        run.rows("set 1 0");
        for (int limb = 1; limb <= 100; limb++) {
            run.rows("push 1 " + limb);
        }
        for (int limb = 1; limb <= 100; limb++) {
            run.rows("limb 1 " + (100 - limb) + " = " + limb);
        }
        run.rows("limb 1 100 = 0");
    }

    private void lengthsAnswered() {
        due.sentence("Terms", "Calls that make a number for a register answer its length (divide() that of the quotient).");
        run("set 0 -1000 = 10", "push 0 0 = 42", "copy 1 0 = 42", "set 1 3", "swap 1 0 = 42", "negate 1 = 42", "set 0 1000",
            "set 1 -1000", "set 2 7", "add 3 0 2 = 10", "add 3 0 1 = 0", "subtract 3 0 1 = 11", "subtract 3 0 0 = 0",
            "multiply 3 0 1 = 20", "multiply 3 0 9 = 0", "addProduct 3 2 2 false = 6", "addProduct 3 2 2 true = 0",
            "exact 3 0 1 = 1", "exact 3 9 1 = 0", "nearest 3 0 2 = 8", "nearest 3 2 0 = 0", "gcd 3 0 1 = 10",
            "gcd 3 0 2 = 1", "gcd 3 9 9 = 0");
        // The quotient's, be what is left longer, as long, shorter or 0.
        run("set 0 1000", "set 1 7", "divide 2 3 0 1 = 8", "value 3 = 6", "divide 2 3 1 0 = 0", "value 3 = 7", "set 1 999",
            "divide 2 3 0 1 = 1", "value 3 = 1", "set 1 600", "divide 2 3 0 1 = 1", "value 3 = 400", "set 1 500",
            "divide 2 3 0 1 = 2", "value 3 = 0", "negate 0", "divide 2 3 0 1 = 2", "set 1 7", "divide 2 3 0 1 = 8",
            "value 2 = -143", "value 3 = 1", "set 1 4000", "divide 2 3 0 1 = 1", "value 2 = -1", "value 3 = 3000",
            "make 4 " + MOST, "divide 2 3 0 4 = 1", "length 3 = 20000", "negate 0", "divide 2 3 0 4 = 0", "length 3 = 10");
    }

    private static final String BEFORE =
        "What a call takes from registers is what they have before it, also where it makes one of them.";

    /** Every way to name three registers, or four for divide, by two or three that differ. */
    private void sameRegisterShort() {
        due.sentence("Terms", BEFORE);
        sameRegister("set 0 84", "set 1 36", "set 2 6");
        sameRegister("set 0 -84", "set 1 36", "set 2 -6");
        sameRegister("set 0 7", "set 1 0", "set 2 -2");
    }

    private void sameRegisterLong() {
        due.sentence("Terms", BEFORE);
        sameRegister("make 0 " + MOST, "make 1 2^10000-1", "set 2 1");
        sameRegister("make 0 " + LEAST, "make 1 2^10000+1", "make 2 -2^9999");
        sameRegister("make 0 2^9999+2^64", "make 1 2^9984", "make 2 2^64+1");
    }

    private void sameRegister(String... made) {
        for (int to = 0; to < 3; to++) {
            for (int a = 0; a < 3; a++) {
                run(made).rows("copy " + to + " " + a).values(0, 1, 2);
                run(made).rows("swap " + to + " " + a).values(0, 1, 2);
                run(made).rows("compare " + to + " " + a).values(0, 1, 2);
                for (int b = 0; b < 3; b++) {
                    for (String call : THREE_PLACES) {
                        run(made).rows(call + " " + to + " " + a + " " + b + away(call)).values(0, 1, 2);
                    }
                    run(made).rows("addProduct " + to + " " + a + " " + b + " false").values(0, 1, 2);
                    for (int r = 0; r < 3; r++) {
                        run(made).rows("divide " + to + " " + r + " " + a + " " + b).values(0, 1, 2);
                    }
                }
            }
        }
    }

    /** Nothing but registers is taken: a short call after one whose numbers were long and below 0, or refused. */
    private void callAfterCall() {
        due.sentence("Terms", BEFORE);
        String[] firstCalls = {"set 12 -9223372036854775808", "push 11 -1", "copy 12 10", "swap 14 10", "negate 10",
            "add 12 10 9", "subtract 12 9 14", "multiply 12 10 13", "addProduct 12 10 13 false", "addProduct 12 14 13 true",
            "divide 12 15 10 11", "divide 12 15 10 16", "divide 12 15 17 10", "exact 12 10 13", "nearest 12 10 16",
            "gcd 12 10 9", "gcd 12 10 11", "compare 10 14", "limb 10 624", "rest 10 7", "print 10", "add 12 10 10" + LONGER,
            "push 10 1" + LONGER, "addProduct 10 14 13 true" + LONGER, "exact 12 10 16" + ARITHMETIC};
        // Register 0 is 7, 1 is 3, 2 is 0.
        String[] thenCalls = {"set 3 5 = 3", "push 3 1 = 35", "copy 3 0 = 3", "negate 3 = 3", "swap 3 4", "add 3 0 1 = 4",
            "add 3 0 2 = 3", "subtract 3 1 0 = 3", "subtract 3 0 0 = 0", "multiply 3 0 1 = 5", "multiply 3 2 0 = 0",
            "addProduct 3 0 1 true = 5", "divide 3 4 0 1 = 2", "divide 3 4 1 0 = 0", "divide 3 4 2 1 = 0",
            "exact 3 0 13 = 3", "exact 3 2 0 = 0", "nearest 3 0 1 = 2", "nearest 3 1 0 = 0", "gcd 3 0 1 = 1",
            "gcd 3 0 2 = 3", "compare 0 1 = 1", "sign 0 = 1", "length 0 = 3", "limb 0 1 = 0", "rest 0 5 = 2", "print 0 = 1",
            "print 2 = 1"};
        for (String firstCall : firstCalls) {
            Run run = null;
            for (int i = 0; i < thenCalls.length; i++) {
                if (i % 7 == 0) {
                    run = run("make 10 " + LEAST, "make 11 2^10000-2^64", "set 13 1", "copy 14 10", "negate 14", "set 16 2",
                        "set 17 -1", "set 0 7", "set 1 3");
                }
                run.rows("set 3 5", "set 12 0", firstCall, thenCalls[i]).values(3, 4);
            }
        }
    }

    private static final String NOTHING_CHANGED =
        "A call that throws changes nothing; of several exceptions that fit the one named first is thrown.";

    /** Every call that can throw, with the longest numbers in all registers and the array as full as it gets. */
    private void refusedWhenFull() {
        due.sentence("Terms", NOTHING_CHANGED);
        Run run = run("make 0 " + MOST);
        for (int r = 1; r < 24; r++) {
            run.rows("set " + r + " " + r, "subtract " + r + " 0 " + r + " = 20000");
        }
        run.rows("negate 7", "negate 8", "swap 0 9", "print 7");
        for (int r = 0; r < 24; r += 5) {
            run.rows("set 24 0" + INDEX, "push " + r + " 0" + LONGER, "copy " + r + " 24" + INDEX, "copy 24 " + r + INDEX,
                "swap " + r + " -1" + INDEX, "swap 24 " + r + INDEX, "negate -1" + INDEX, "add " + r + " 0 9" + LONGER,
                "subtract " + r + " 0 7" + LONGER, "multiply " + r + " " + r + " 9" + LONGER,
                "addProduct " + r + " 7 8 true" + LONGER, "addProduct " + r + " 7 8 false" + LONGER,
                "divide " + r + " " + r + " 0 1" + ARGUMENT, "divide " + r + " 1 0 7" + ARITHMETIC,
                "divide " + r + " 1 24 7" + INDEX, "nearest " + r + " 0 8" + ARITHMETIC, "gcd " + r + " 0 24" + INDEX,
                "limb " + r + " -1" + INDEX, "rest " + r + " 0" + ARGUMENT, "print 24" + INDEX, "length 24" + INDEX,
                "sign 24" + INDEX, "compare " + r + " 24" + INDEX);
        }
    }

    private void firstNamedException() {
        due.sentence("Terms", NOTHING_CHANGED);
        // Register 1 is 0, 2 below 0: where more than one exception fits, the first of the promise's last sentence.
        run("make 0 " + MOST, "set 2 -3", "print 2", "add 24 0 0" + INDEX, "subtract 24 0 2" + INDEX, "multiply 24 0 0" + INDEX,
            "addProduct 24 0 0 false" + INDEX, "addProduct -1 0 2 true" + INDEX, "divide 24 24 0 1" + INDEX,
            "divide 5 5 24 1" + INDEX, "divide 5 5 0 24" + INDEX, "divide 5 24 0 2" + INDEX, "divide 5 6 24 1" + INDEX,
            "divide 5 5 0 1" + ARGUMENT, "divide 5 5 0 2" + ARGUMENT, "exact 24 0 1" + INDEX, "exact 5 24 1" + INDEX,
            "exact 24 0 2" + INDEX, "nearest 24 0 1" + INDEX, "nearest 5 24 2" + INDEX, "limb 24 -1" + INDEX,
            "rest 24 0" + INDEX, "rest -1 -1" + INDEX);
    }

    private void noSuchRegister() {
        due.sentence("Terms", "IndexOutOfBoundsException: there is no such register.");
        for (int r : new int[] {-1, 24, 25, 31, 32, -24, 256, 65536, Integer.MIN_VALUE, Integer.MAX_VALUE}) {
            run("set 0 1", "set " + r + " 1" + INDEX, "push " + r + " 1" + INDEX, "copy " + r + " 0" + INDEX,
                "copy 0 " + r + INDEX, "swap " + r + " 0" + INDEX, "swap 0 " + r + INDEX, "negate " + r + INDEX,
                "compare " + r + " 0" + INDEX, "compare 0 " + r + INDEX, "sign " + r + INDEX, "length " + r + INDEX,
                "limb " + r + " 0" + INDEX, "rest " + r + " 1" + INDEX, "print " + r + INDEX, "character " + r + " = -1",
                "divide " + r + " 1 0 0" + INDEX, "divide 1 " + r + " 0 0" + INDEX, "divide 1 2 " + r + " 0" + INDEX,
                "divide 1 2 0 " + r + INDEX);
            for (String call : THREE_PLACES) {
                run("set 0 1", call + " " + r + " 0 0" + away(call) + INDEX, call + " 0 " + r + " 0" + away(call) + INDEX,
                    call + " 0 0 " + r + away(call) + INDEX);
            }
        }
    }

    private void longerThan20000() {
        due.sentence("Terms", "UnsupportedOperationException: the number would be longer than 20000.");
        // On the left what is 20000 long, on the right the same with one more.
        run("make 0 2^19968-1", "push 0 -1 = 20000", "make 1 2^19968", "push 1 0" + LONGER, "set 2 1", "make 3 2^19999",
            "make 4 2^19999-1", "add 5 3 4 = 20000", "add 5 3 3" + LONGER, "add 5 5 2" + LONGER, "negate 3",
            "subtract 5 4 3 = 20000", "subtract 5 5 3" + LONGER, "subtract 5 4 4 = 0", "subtract 5 3 4 = 20000",
            "subtract 5 5 2" + LONGER, "negate 2", "add 5 5 2" + LONGER);
        run("make 0 2^10000", "make 1 2^10000-1", "multiply 2 0 1 = 20000", "multiply 3 0 0" + LONGER,
            "addProduct 2 1 1 false" + LONGER, "addProduct 2 0 1 true = 0", "addProduct 2 0 0 true" + LONGER,
            "addProduct 2 0 1 true = 20000", "addProduct 2 0 1 true" + LONGER, "addProduct 2 1 1 false = 10000");
    }

    private static final String PACKED = "Whole numbers of any length, all in one array that is packed when it is full: "
        + "sums, products, quotients rounded down or to the nearest, greatest common divisors, remainders, their digits.";

    /**
     * All 24 registers hold long numbers, and one kind of call makes them anew until the calls run out: wherever the
     * array is full, it is so in the middle of such a call.
     */
    private void fullInTheMiddle() {
        due.sentence("What it is", PACKED);
        for (int seed = 0; seed < 4; seed++) {
            for (String call : new String[] {"copy", "push", "add", "subtract", "multiply", "addProduct", "divide", "exact",
                "nearest", "gcd", "negate", "swap", "mixed"}) {
                fullBy(call, new Random(seed), seed % 2 == 0);
            }
        }
    }

    private void fullBy(String call, Random random, boolean longest) {
        Run run = run(longest ? "make 0 2^19960+2^10000+1" : "make 0 2^18000-2^32+3", "copy 1 0", "negate 1");
        for (int r = 2; r < 24; r++) {
            // Each is its own, so that one in another's place is seen.
            run.rows("set " + r + " " + random.nextInt(100), "addProduct " + r + " 0 " + r + " " + random.nextBoolean(),
                "add " + r + " " + r + " 0");
        }
        if (call.equals("divide")) {
            run.rows("make 21 2^9990+3", "copy 22 0", "copy 23 1");
        }
        String[] kinds = {"copy", "push", "add", "subtract", "multiply", "addProduct", "divide", "exact", "nearest", "gcd",
            "negate", "swap"};
        while (run.left() > LOOK + 12) {
            String kind = call.equals("mixed") ? kinds[random.nextInt(kinds.length)] : call;
            turn(run, kind, random);
        }
        run.everything();
    }

    private void turn(Run run, String kind, Random random) {
        int to = 1 + random.nextInt(23);
        int a = random.nextInt(24);
        int b = random.nextInt(24);
        String three = " " + to + " " + a + " " + b;
        switch (kind) {
            case "copy", "swap" -> run.rows(kind + " " + to + " " + (kind.equals("swap") ? Math.max(1, a) : a));
            case "negate" -> run.rows("negate " + to, "copy " + (24 - to) + " " + to);
            case "push" -> run.rows("copy " + to + " 0", "push " + to + " " + random.nextInt());
            case "add", "subtract" -> run.rows(kind + three);
            case "gcd" -> run.rows("gcd " + to + " " + a + " 0");
            case "divide" -> divide(run, to % 20 + 1, a, random);
            default -> run.rows("set " + to + " " + (1 + random.nextInt(3)),
                kind + " " + to + " " + (kind.equals("exact") || random.nextBoolean() ? 0 : a) + " " + to
                    + (kind.equals("addProduct") ? " " + random.nextBoolean() : ""));
        }
        if (run.at(to).bitLength() < 9000) {
            run.rows("copy " + to + " 0");
        }
    }

    /** By a short number or, where register 21 is kept for it, by a long one, so that what is left is long too. */
    private void divide(Run run, int q, int a, Random random) {
        if (run.at(21).bitLength() < 10000 && random.nextBoolean()) {
            run.rows("divide " + q + " 22 " + a + " 21", "divide 22 " + q + " 0 21");
        } else {
            run.rows("set 22 " + (2 + random.nextInt(1000)), "divide " + q + " 22 " + (random.nextBoolean() ? 0 : a) + " 22",
                "copy 22 0");
        }
    }

    /**
     * The array full in the middle of set, and of push on a short number: the longest numbers everywhere, some of
     * them made once more so that there is room for ever fewer, and then small ones.
     */
    private void fullBySmallNumbers() {
        due.sentence("What it is", PACKED);
        for (int again = 0; again < 8; again++) {
            Run set = longestEverywhere(again);
            for (int turn = 0; set.left() > LOOK; turn++) {
                set.rows("set " + (turn % 2 == 0 ? 5 : 17) + " " + (Long.MIN_VALUE + turn) + (turn == 0 ? " = 64" : " = 63"));
            }
            set.everything();
            Run push = longestEverywhere(again).rows("set 5 -1");
            for (int limbs = 1; push.left() > LOOK + 1; limbs = limbs % 8 + 1) {
                push.rows(limbs == 1 ? "set 5 -1 = 1" : "push 5 " + -limbs + " = " + (32 * limbs - 31));
            }
            push.everything();
        }
    }

    private Run longestEverywhere(int again) {
        Run run = run("make 0 " + MOST);
        for (int r = 1; r < 24; r++) {
            run.rows("copy " + r + " 0 = 20000");
        }
        for (int r = 1; r <= again; r++) {
            run.rows("copy " + r + " 23 = 20000");
        }
        return run;
    }

    private void lastOf512Calls() {
        due.sentence("What it is",
            "An object is used for at most 512 calls after it has been made; what later calls answer is free.");
        for (String last : new String[] {"set 3 -1 = 1", "push 3 0 = 20000", "copy 3 0 = 20000", "swap 3 0 = 20000",
            "negate 0 = 20000", "add 3 0 9 = 20000", "subtract 3 9 0 = 20000", "multiply 3 0 5 = 20000",
            "addProduct 3 0 5 false = 20000", "divide 3 4 0 5 = 20000", "exact 3 0 5 = 20000", "nearest 3 0 5 = 20000",
            "gcd 3 0 0 = 20000", "compare 0 3 = 1", "sign 0 = 1", "length 0 = 20000", "limb 0 624 = -1", "rest 0 7 = 3",
            "print 0 = 6021", "character 0 = 49"}) {
            Run run = run("make 0 " + MOST, "make 3 2^19967", "set 5 1", "print 5");
            while (run.left() > 2) {
                run.rows("copy " + (10 + run.left() % 14) + " 0 = 20000");
            }
            run.rows(last.startsWith("addProduct") ? "set 3 0 = 0" : "copy 23 0 = 20000", last);
            due.answer("calls left of 512", run.left(), 0);
        }
    }
}
