import java.math.BigInteger;
import java.util.ArrayList;
import java.util.List;

/**
 * A run of calls on a new object, written as rows "call = answer", beside the model. An exception's name is an
 * answer too; after every call that throws the whole state is looked at. Rows that are more than one call:
 * "make r sum" makes a register what the sum says (registers 22 and 23 are 0 afterwards), "value r = sum" looks
 * whether it is that, "text r = digits" prints it and reads every character.
 */
final class Run {
    static final String INDEX = " = IndexOutOfBoundsException";
    static final String LONGER = " = UnsupportedOperationException";
    static final String ARGUMENT = " = IllegalArgumentException";
    static final String ARITHMETIC = " = ArithmeticException";
    /** The greatest number of length 20000, in an order in which no part of the sum is longer. */
    static final String MOST = "2^19999-1+2^19999";
    static final String LEAST = "-2^19999+1-2^19999";
    static final int[] NOWHERE = {-1, 24, Integer.MIN_VALUE, Integer.MAX_VALUE};

    private static final int CALLS = 512;
    private static final int BASE = 22;
    private static final int PART = 23;

    private final Due due;
    private final PackedNumbers x = new PackedNumbers();
    private final Model m = new Model();
    private final List<String> done = new ArrayList<>();

    Run(Due due, String... rows) {
        this.due = due;
        rows(rows);
    }

    Run rows(String... rows) {
        for (String row : rows) {
            String[] sides = row.split(" = ");
            String[] words = sides[0].split(" ");
            switch (words[0]) {
                case "make" -> make(Integer.parseInt(words[1]), words[2]);
                case "value" -> value(Integer.parseInt(words[1]), sum(sides[1]));
                case "text" -> due.answer(told(sides[0]), text(Integer.parseInt(words[1])), sides[1]);
                default -> call(sides[0], sides.length > 1 ? sides[1] : null);
            }
        }
        return this;
    }

    /** How many calls of the object are left; a run that needs more would look at answers that are free. */
    int left() {
        return CALLS - done.size();
    }

    BigInteger at(int r) {
        return m.registers[r];
    }

    private String told(String call) {
        return "after " + done.size() + " calls, " + call;
    }

    /** Without an answer that is written the model's alone is due. */
    private String call(String row, String written) {
        String want = Due.outcome(Calls.on(m, row));
        if (written != null) {
            due.answer("the model: " + told(row), want, written);
        }
        String got = Due.outcome(Calls.on(x, row));
        due.answer(told(row), got, want);
        done.add(row);
        if (want.endsWith("Exception")) {
            sameAsBefore(row);
        }
        if (left() < 0) {
            throw new IllegalStateException("a run of more than 512 calls");
        }
        return got;
    }

    /** On another object, which has gone the same way, so that looking costs this one no calls. */
    private void sameAsBefore(String refused) {
        PackedNumbers twin = new PackedNumbers();
        for (String row : done) {
            Due.outcome(Calls.on(twin, row));
        }
        String call = "all registers after the refused " + told(refused);
        due.answer(call, Make.marks(twin), marks());
        int printed = m.printed().length();
        for (int i : new int[] {-1, 0, 1, printed / 2, printed - 1, printed, printed + 1}) {
            due.answer("character(" + i + ") after the refused " + told(refused), twin.character(i), m.character(i));
        }
        if (done.size() + 24 * 5 + 7 > CALLS) {
            throw new IllegalStateException("a look at the state of more than 512 calls");
        }
    }

    private String marks() {
        StringBuilder marks = new StringBuilder();
        for (int r = 0; r < 24; r++) {
            marks.append(Make.mark(at(r))).append(' ');
        }
        return marks.toString();
    }

    /** Every register, by five calls each. */
    Run everything() {
        for (int r = 0; r < 24; r++) {
            value(r, at(r));
        }
        return this;
    }

    Run values(int... registers) {
        for (int r : registers) {
            value(r, at(r));
        }
        return this;
    }

    private void value(int r, BigInteger want) {
        due.answer("the model: " + told("register " + r), at(r), want);
        call("sign " + r, null);
        call("length " + r, null);
        for (int p : Make.PRIMES) {
            call("rest " + r + " " + p, null);
        }
    }

    private String text(int r) {
        StringBuilder text = new StringBuilder();
        int n = Integer.parseInt(call("print " + r, null));
        for (int i = 0; i < n; i++) {
            text.append((char) Integer.parseInt(call("character " + i, null)));
        }
        return text.toString();
    }

    /** "-2^64+5*2^32-1": numbers and powers, each with a factor before it or none, added up from the left. */
    static BigInteger sum(String words) {
        BigInteger sum = BigInteger.ZERO;
        for (String part : parts(words)) {
            sum = sum.add(part(part));
        }
        return sum;
    }

    private static String[] parts(String words) {
        return words.split("(?<=[0-9])(?=[+-])");
    }

    private static BigInteger part(String part) {
        BigInteger product = part.startsWith("-") ? BigInteger.ONE.negate() : BigInteger.ONE;
        for (String factor : part.replaceFirst("^[+-]", "").split("\\*")) {
            String[] power = factor.split("\\^");
            BigInteger base = new BigInteger(power[0]);
            product = product.multiply(power.length == 1 ? base : base.pow(Integer.parseInt(power[1])));
        }
        return product;
    }

    private void make(int r, String words) {
        if (r == BASE || r == PART) {
            throw new IllegalStateException("register " + r + " is needed to make the others");
        }
        String[] parts = parts(words);
        makePart(r, parts[0]);
        for (int i = 1; i < parts.length; i++) {
            makePart(PART, parts[i]);
            call("add " + r + " " + r + " " + PART, null);
        }
        call("set " + PART + " 0", null);
        call("set " + BASE + " 0", null);
        due.answer("the model: " + told("made " + words), at(r), sum(words));
    }

    private void makePart(int r, String part) {
        BigInteger value = part(part);
        if (value.bitLength() < 64) {
            call("set " + r + " " + value, null);
            return;
        }
        String[] factors = part.replaceFirst("^[+-]", "").split("\\*");
        String[] power = factors[factors.length - 1].split("\\^");
        makePower(r, Integer.parseInt(power[0]), Integer.parseInt(power[1]));
        if (factors.length > 1) {
            call("set " + BASE + " " + factors[0], null);
            call("multiply " + r + " " + r + " " + BASE, null);
        }
        if (part.startsWith("-")) {
            call("negate " + r, null);
        }
    }

    /** By squaring, from the greatest power that a long holds. */
    private void makePower(int r, int base, int exponent) {
        int bit = 0;
        while (BigInteger.valueOf(base).pow(exponent >> bit).bitLength() > 63) {
            bit++;
        }
        call("set " + r + " " + BigInteger.valueOf(base).pow(exponent >> bit), null);
        call("set " + BASE + " " + base, null);
        for (int b = bit - 1; b >= 0; b--) {
            call("multiply " + r + " " + r + " " + r, null);
            if ((exponent >> b & 1) == 1) {
                call("multiply " + r + " " + r + " " + BASE, null);
            }
        }
    }

    /** Each place of a call that names a register, with a register that is not there: alone, then all of them. */
    Run nowhere(String call, int places, String behind) {
        for (int r : NOWHERE) {
            for (int place = 0; place < places; place++) {
                StringBuilder row = new StringBuilder(call);
                for (int i = 0; i < places; i++) {
                    row.append(' ').append(i == place ? r : i);
                }
                rows(row + behind + INDEX);
            }
            rows(call + (" " + r).repeat(places) + behind + INDEX);
        }
        return this;
    }
}
