import java.math.BigInteger;

/** The document's promises once more, over BigInteger. */
final class Model {
    final BigInteger[] registers = new BigInteger[24];
    private String printed = "";

    Model() {
        java.util.Arrays.fill(registers, BigInteger.ZERO);
    }

    private BigInteger at(int r) {
        if (r < 0 || r >= registers.length) {
            throw new IndexOutOfBoundsException();
        }
        return registers[r];
    }

    private int keep(int r, BigInteger v) {
        if (v.abs().bitLength() > 20000) {
            throw new UnsupportedOperationException();
        }
        registers[r] = v;
        return v.abs().bitLength();
    }

    int set(int r, long v) {
        at(r);
        return keep(r, BigInteger.valueOf(v));
    }

    int push(int r, int v) {
        BigInteger low = BigInteger.valueOf(v & 0xFFFFFFFFL);
        BigInteger high = at(r).shiftLeft(32);
        return keep(r, high.signum() < 0 ? high.subtract(low) : high.add(low));
    }

    int copy(int to, int a) {
        at(to);
        return keep(to, at(a));
    }

    int swap(int a, int b) {
        BigInteger was = at(a);
        registers[a] = at(b);
        registers[b] = was;
        return length(a);
    }

    int negate(int r) {
        return keep(r, at(r).negate());
    }

    int add(int to, int a, int b) {
        at(to);
        return keep(to, at(a).add(at(b)));
    }

    int subtract(int to, int a, int b) {
        at(to);
        return keep(to, at(a).subtract(at(b)));
    }

    int multiply(int to, int a, int b) {
        at(to);
        return keep(to, at(a).multiply(at(b)));
    }

    int addProduct(int to, int a, int b, boolean away) {
        BigInteger product = at(a).multiply(at(b));
        return keep(to, away ? at(to).subtract(product) : at(to).add(product));
    }

    int divide(int q, int r, int a, int b) {
        at(q);
        at(r);
        at(a);
        at(b);
        if (q == r) {
            throw new IllegalArgumentException();
        }
        BigInteger divisor = above0(b);
        BigInteger left = at(a).mod(divisor);
        BigInteger quotient = at(a).subtract(left).divide(divisor);
        keep(r, left);
        return keep(q, quotient);
    }

    private BigInteger above0(int b) {
        if (at(b).signum() <= 0) {
            throw new ArithmeticException();
        }
        return at(b);
    }

    int exact(int to, int a, int b) {
        at(to);
        at(a);
        if (at(b).signum() == 0 || at(a).remainder(at(b)).signum() != 0) {
            throw new ArithmeticException();
        }
        return keep(to, at(a).divide(at(b)));
    }

    int nearest(int to, int a, int b) {
        at(to);
        at(a);
        BigInteger divisor = above0(b);
        BigInteger[] parts = at(a).abs().divideAndRemainder(divisor);
        int half = parts[1].shiftLeft(1).compareTo(divisor);
        boolean up = half > 0 || half == 0 && parts[0].testBit(0);
        BigInteger size = up ? parts[0].add(BigInteger.ONE) : parts[0];
        return keep(to, at(a).signum() < 0 ? size.negate() : size);
    }

    int gcd(int to, int a, int b) {
        at(to);
        return keep(to, at(a).gcd(at(b)));
    }

    int compare(int a, int b) {
        return at(a).compareTo(at(b));
    }

    int sign(int a) {
        return at(a).signum();
    }

    int length(int a) {
        return at(a).abs().bitLength();
    }

    int limb(int a, int k) {
        at(a);
        if (k < 0) {
            throw new IndexOutOfBoundsException();
        }
        return k > 1000 ? 0 : at(a).abs().shiftRight(32 * k).intValue();
    }

    int rest(int a, int p) {
        at(a);
        if (p < 1) {
            throw new IllegalArgumentException();
        }
        return at(a).mod(BigInteger.valueOf(p)).intValue();
    }

    int print(int a) {
        printed = at(a).toString();
        return printed.length();
    }

    String printed() {
        return printed;
    }

    int character(int i) {
        return i < 0 || i >= printed.length() ? -1 : printed.charAt(i);
    }
}
