import java.math.BigInteger;

/** Numbers made, and read, by few calls: an object has but 512 of them. */
final class Make {
    static final int[] PRIMES = {2147483647, 2147483629, 1000003};

    private Make() {
    }

    /** 2^exponent, by squaring. */
    static void power(PackedNumbers x, int r, int exponent) {
        x.set(r, 1);
        for (int bit = 31 - Integer.numberOfLeadingZeros(exponent); bit >= 0; bit--) {
            x.multiply(r, r, r);
            if ((exponent >> bit & 1) == 1) {
                x.add(r, r, r);
            }
        }
    }

    /** 2^20000 - 1; the register t becomes 2^19999 - 1. */
    static void longest(PackedNumbers x, int r, int t) {
        power(x, r, 19999);
        x.set(t, 1);
        x.subtract(t, r, t);
        x.add(r, r, t);
    }

    static String text(PackedNumbers x, int r) {
        StringBuilder text = new StringBuilder();
        int n = x.print(r);
        for (int i = 0; i < n; i++) {
            text.append((char) x.character(i));
        }
        return text.toString();
    }

    /** Tells a number apart from others in five calls, however long it is. */
    static String mark(PackedNumbers x, int r) {
        StringBuilder mark = new StringBuilder();
        mark.append(x.sign(r)).append('/').append(x.length(r));
        for (int p : PRIMES) {
            mark.append('/').append(x.rest(r, p));
        }
        return mark.toString();
    }

    static String mark(BigInteger v) {
        StringBuilder mark = new StringBuilder();
        mark.append(v.signum()).append('/').append(v.abs().bitLength());
        for (int p : PRIMES) {
            mark.append('/').append(v.mod(BigInteger.valueOf(p)));
        }
        return mark.toString();
    }

    static String marks(PackedNumbers x) {
        StringBuilder marks = new StringBuilder();
        for (int r = 0; r < 24; r++) {
            marks.append(mark(x, r)).append(' ');
        }
        return marks.toString();
    }
}
