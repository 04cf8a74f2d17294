/** Whole numbers of any length in 24 registers, all in one array that is packed when it is full. */
public final class PackedNumbers {
    public static final int NONE = -1;

    private static final int REGISTERS = 24;
    private static final int MOST_BITS = 20000;
    private static final int LIMB_BITS = 32;
    private static final long LIMB_MASK = 0xFFFFFFFFL;
    private static final int MOST_LIMBS = MOST_BITS / LIMB_BITS;
    // Sums and products that are yet to be refused, and a dividend that is shifted, need up to two limbs more.
    private static final int ROW_LIMBS = MOST_LIMBS + 7;
    // All registers at their longest fit with room to spare, so that packing always finds enough and is rare.
    private static final int CELLS = (REGISTERS + 4) * MOST_LIMBS;

    private final Store store = new Store();
    private final Euclid euclid = new Euclid();
    private final Text text = new Text();
    private final Row first = new Row();
    private final Row second = new Row();
    private final Row third = new Row();
    private final Row fourth = new Row();

    public PackedNumbers() {
    }

    public int set(int r, long v) throws IndexOutOfBoundsException {
        needRegister(r);
        first.become(v);
        return keep(r, first);
    }

    public int push(int r, int v) throws IndexOutOfBoundsException, UnsupportedOperationException {
        needRegister(r);
        store.read(r, first);
        first.putBelow(v);
        return keep(r, first);
    }

    public int copy(int to, int a) throws IndexOutOfBoundsException {
        needRegisters(to, a);
        store.read(a, first);
        return keep(to, first);
    }

    public int swap(int a, int b) throws IndexOutOfBoundsException {
        needRegisters(a, b);
        store.exchange(a, b);
        return length(a);
    }

    public int negate(int r) throws IndexOutOfBoundsException {
        needRegister(r);
        store.turn(r);
        return length(r);
    }

    public int add(int to, int a, int b) throws IndexOutOfBoundsException, UnsupportedOperationException {
        return keepSum(to, a, b, false);
    }

    public int subtract(int to, int a, int b) throws IndexOutOfBoundsException, UnsupportedOperationException {
        return keepSum(to, a, b, true);
    }

    public int multiply(int to, int a, int b) throws IndexOutOfBoundsException, UnsupportedOperationException {
        needRegister(to);
        needRegisters(a, b);
        readBoth(a, b);
        needLength(leastProductBits());
        third.becomeProduct(first, second);
        return keep(to, third);
    }

    public int addProduct(int to, int a, int b, boolean away)
            throws IndexOutOfBoundsException, UnsupportedOperationException {
        needRegister(to);
        needRegisters(a, b);
        readBoth(a, b);
        // Only the outcome is limited, but of a product of 20002 bits or more what is there never leaves 20000.
        needLength(leastProductBits() - 1);
        third.becomeProduct(first, second);
        store.read(to, first);
        fourth.becomeSum(first, third, away);
        return keep(to, fourth);
    }

    public int divide(int q, int r, int a, int b)
            throws IndexOutOfBoundsException, IllegalArgumentException, ArithmeticException {
        needRegisters(q, r);
        needRegisters(a, b);
        if (q == r) {
            throw new IllegalArgumentException("quotient and remainder go to the same register");
        }
        readBoth(a, b);
        needDivisorAboveZero();
        boolean below = first.below;
        Division.split(first, second, third);
        if (below && first.count > 0) {
            third.increase();
            fourth.becomeSizeDifference(second, first);
        } else {
            fourth.take(first);
        }
        third.turnBelowIf(below);
        keep(r, fourth);
        return keep(q, third);
    }

    public int exact(int to, int a, int b) throws IndexOutOfBoundsException, ArithmeticException {
        needRegister(to);
        needRegisters(a, b);
        readBoth(a, b);
        if (second.count == 0) {
            throw new ArithmeticException("the divisor is 0");
        }
        boolean below = first.below != second.below;
        Division.split(first, second, third);
        if (first.count > 0) {
            throw new ArithmeticException("something is left");
        }
        third.turnBelowIf(below);
        return keep(to, third);
    }

    public int nearest(int to, int a, int b) throws IndexOutOfBoundsException, ArithmeticException {
        needRegister(to);
        needRegisters(a, b);
        readBoth(a, b);
        needDivisorAboveZero();
        boolean below = first.below;
        Division.split(first, second, third);
        fourth.becomeSizeSum(first, first);
        int half = fourth.compareSize(second);
        if (half > 0 || (half == 0 && third.isOdd())) {
            third.increase();
        }
        third.turnBelowIf(below);
        return keep(to, third);
    }

    public int gcd(int to, int a, int b) throws IndexOutOfBoundsException {
        needRegister(to);
        needRegisters(a, b);
        readBoth(a, b);
        return keep(to, euclid.greatest(first, second, third));
    }

    public int compare(int a, int b) throws IndexOutOfBoundsException {
        needRegisters(a, b);
        readBoth(a, b);
        if (first.below != second.below) {
            return first.below ? -1 : 1;
        }
        int sizes = first.compareSize(second);
        return first.below ? -sizes : sizes;
    }

    public int sign(int a) throws IndexOutOfBoundsException {
        needRegister(a);
        store.read(a, first);
        return first.signum();
    }

    public int length(int a) throws IndexOutOfBoundsException {
        needRegister(a);
        store.read(a, first);
        return first.bits();
    }

    public int limb(int a, int k) throws IndexOutOfBoundsException {
        needRegister(a);
        if (k < 0) {
            throw new IndexOutOfBoundsException("no limb is below 0");
        }
        store.read(a, first);
        return (int) first.limbAt(k);
    }

    public int rest(int a, int p) throws IndexOutOfBoundsException, IllegalArgumentException {
        needRegister(a);
        if (p < 1) {
            throw new IllegalArgumentException("the modulus is below 1");
        }
        store.read(a, first);
        boolean below = first.below;
        int left = (int) first.shrink(p);
        return below && left > 0 ? p - left : left;
    }

    public int print(int a) throws IndexOutOfBoundsException {
        needRegister(a);
        store.read(a, first);
        return text.write(first);
    }

    public int character(int i) {
        return text.at(i);
    }

    private void needRegister(int r) {
        if (r < 0 || r >= REGISTERS) {
            throw new IndexOutOfBoundsException("there is no such register");
        }
    }

    private void needRegisters(int a, int b) {
        needRegister(a);
        needRegister(b);
    }

    private void needLength(int bits) {
        if (bits > MOST_BITS) {
            throw new UnsupportedOperationException("the number would be longer than 20000");
        }
    }

    private void needDivisorAboveZero() {
        if (second.signum() <= 0) {
            throw new ArithmeticException("the divisor is not above 0");
        }
    }

    // Every call works on copies, so a register that it makes may be one that it takes.
    private void readBoth(int a, int b) {
        store.read(a, first);
        store.read(b, second);
    }

    // A product has as many bits as both factors together, or one less.
    private int leastProductBits() {
        return first.bits() + second.bits() - 1;
    }

    private int keepSum(int to, int a, int b, boolean away) {
        needRegister(to);
        needRegisters(a, b);
        readBoth(a, b);
        third.becomeSum(first, second, away);
        return keep(to, third);
    }

    private int keep(int to, Row row) {
        int bits = row.bits();
        needLength(bits);
        store.write(to, row);
        return bits;
    }

    /** The one array with the limbs of all registers, and where in it each of them stands. */
    private static final class Store {
        private final int[] cells = new int[CELLS];
        private final int[] starts = new int[REGISTERS];
        private final int[] counts = new int[REGISTERS];
        private final boolean[] belows = new boolean[REGISTERS];
        private int used = 0;

        private void read(int r, Row row) {
            System.arraycopy(cells, starts[r], row.limbs, 0, counts[r]);
            row.count = counts[r];
            row.below = belows[r];
        }

        private void write(int r, Row row) {
            // The old number is given up first, so that packing does not keep it.
            counts[r] = 0;
            if (row.count > CELLS - used) {
                pack();
            }
            System.arraycopy(row.limbs, 0, cells, used, row.count);
            starts[r] = used;
            counts[r] = row.count;
            belows[r] = row.below;
            used += row.count;
        }

        private void exchange(int a, int b) {
            int start = starts[a];
            int count = counts[a];
            boolean below = belows[a];
            starts[a] = starts[b];
            counts[a] = counts[b];
            belows[a] = belows[b];
            starts[b] = start;
            counts[b] = count;
            belows[b] = below;
        }

        private void turn(int r) {
            belows[r] = counts[r] > 0 && !belows[r];
        }

        private void pack() {
            int from = 0;
            int to = 0;
            for (int round = 0; round < REGISTERS; round++) {
                int next = firstFrom(from);
                if (next == NONE) {
                    break;
                }
                int start = starts[next];
                System.arraycopy(cells, start, cells, to, counts[next]);
                starts[next] = to;
                to += counts[next];
                from = start + counts[next];
            }
            used = to;
        }

        // In the order of their places no number is written over before it has been moved itself.
        private int firstFrom(int from) {
            int found = NONE;
            for (int r = 0; r < REGISTERS; r++) {
                boolean waits = counts[r] > 0 && starts[r] >= from;
                if (waits && (found == NONE || starts[r] < starts[found])) {
                    found = r;
                }
            }
            return found;
        }
    }

    /** A number at work: the limbs of its size, the last of them not 0, and whether it is below 0. */
    private static final class Row {
        private final int[] limbs = new int[ROW_LIMBS];
        private int count = 0;
        private boolean below = false;

        private void become(long v) {
            // The least long is its own negative, which read without a sign is its size.
            long size = v < 0 ? -v : v;
            limbs[0] = (int) size;
            limbs[1] = (int) (size >>> LIMB_BITS);
            fit(2);
            below = v < 0;
        }

        private void take(Row other) {
            System.arraycopy(other.limbs, 0, limbs, 0, other.count);
            count = other.count;
            below = other.below;
        }

        private void fit(int most) {
            int n = most;
            while (n > 0 && limbs[n - 1] == 0) {
                n--;
            }
            count = n;
            below = false;
        }

        private void clear(int from, int to) {
            for (int i = from; i < to; i++) {
                limbs[i] = 0;
            }
        }

        private void turnBelowIf(boolean wanted) {
            below = wanted && count > 0;
        }

        private int bits() {
            return count == 0 ? 0 : LIMB_BITS * count - Integer.numberOfLeadingZeros(limbs[count - 1]);
        }

        private int signum() {
            if (count == 0) {
                return 0;
            }
            return below ? -1 : 1;
        }

        private boolean isOdd() {
            return (limbAt(0) & 1) == 1;
        }

        private long limbAt(int k) {
            return k < count ? limbs[k] & LIMB_MASK : 0;
        }

        private void putBelow(int lowest) {
            boolean wasBelow = below;
            System.arraycopy(limbs, 0, limbs, 1, count);
            limbs[0] = lowest;
            fit(count + 1);
            turnBelowIf(wasBelow);
        }

        private int compareSize(Row other) {
            if (count != other.count) {
                return count < other.count ? -1 : 1;
            }
            for (int i = count - 1; i >= 0; i--) {
                if (limbs[i] != other.limbs[i]) {
                    return limbAt(i) < other.limbAt(i) ? -1 : 1;
                }
            }
            return 0;
        }

        private void becomeSum(Row a, Row b, boolean away) {
            boolean belowB = b.below != away;
            if (a.below == belowB) {
                becomeSizeSum(a, b);
                turnBelowIf(belowB);
            } else if (a.compareSize(b) >= 0) {
                becomeSizeDifference(a, b);
                turnBelowIf(a.below);
            } else {
                becomeSizeDifference(b, a);
                turnBelowIf(belowB);
            }
        }

        private void becomeSizeSum(Row a, Row b) {
            int n = Math.max(a.count, b.count);
            long carry = 0;
            for (int i = 0; i < n; i++) {
                carry += a.limbAt(i) + b.limbAt(i);
                limbs[i] = (int) carry;
                carry >>>= LIMB_BITS;
            }
            limbs[n] = (int) carry;
            fit(n + 1);
        }

        // Only for an a that is not smaller than b.
        private void becomeSizeDifference(Row a, Row b) {
            long carry = 0;
            for (int i = 0; i < a.count; i++) {
                carry += a.limbAt(i) - b.limbAt(i);
                limbs[i] = (int) carry;
                carry >>= LIMB_BITS;
            }
            fit(a.count);
        }

        private void becomeProduct(Row a, Row b) {
            int n = a.count + b.count;
            clear(0, n);
            for (int i = 0; i < a.count; i++) {
                limbs[i + b.count] = addMultiple(b, a.limbs[i] & LIMB_MASK, i);
            }
            fit(n);
            turnBelowIf(a.below != b.below);
        }

        private int addMultiple(Row b, long factor, int at) {
            long carry = 0;
            for (int i = 0; i < b.count; i++) {
                // All three together are at most 2^64 - 1, so nothing is lost.
                carry += factor * (b.limbs[i] & LIMB_MASK) + (limbs[at + i] & LIMB_MASK);
                limbs[at + i] = (int) carry;
                carry >>>= LIMB_BITS;
            }
            return (int) carry;
        }

        private void increase() {
            int i = 0;
            while (i < count && limbs[i] == -1) {
                limbs[i] = 0;
                i++;
            }
            if (i < count) {
                limbs[i]++;
            } else if (count < ROW_LIMBS) {
                limbs[count] = 1;
                count++;
            }
        }

        // Divides the size by a divisor of one limb and answers what is left.
        private long shrink(long divisor) {
            long left = 0;
            for (int i = count - 1; i >= 0; i--) {
                long part = (left << LIMB_BITS) | (limbs[i] & LIMB_MASK);
                long quotient = Division.unsigned(part, divisor);
                limbs[i] = (int) quotient;
                left = part - quotient * divisor;
            }
            fit(count);
            return left;
        }

        // Less than a limb's bits; the limb behind the last one takes what goes out above.
        private void shiftUp(int by) {
            long carry = 0;
            for (int i = 0; i < count; i++) {
                long part = ((limbs[i] & LIMB_MASK) << by) | carry;
                limbs[i] = (int) part;
                carry = part >>> LIMB_BITS;
            }
            limbs[count] = (int) carry;
        }

        private void shiftDown(int by) {
            long above = 0;
            for (int i = count - 1; i >= 0; i--) {
                long part = limbs[i] & LIMB_MASK;
                limbs[i] = (int) (((above << LIMB_BITS) | part) >>> by);
                above = part;
            }
            fit(count);
        }

        // The size's bits from one place on; those that a long does not hold are cut off.
        private long bitsFrom(int place) {
            int k = place / LIMB_BITS;
            int by = place % LIMB_BITS;
            long low = limbAt(k) | (limbAt(k + 1) << LIMB_BITS);
            return by == 0 ? low : (low >>> by) | (limbAt(k + 2) << (2 * LIMB_BITS - by));
        }
    }

    /** Long division of sizes, a limb of the quotient at a time (Knuth's algorithm D). */
    private static final class Division {
        private static final long SIGN_BIT = 1L << 63;

        // The dividend becomes what is left of it; the divisor is the same afterwards, without its sign.
        private static void split(Row dividend, Row divisor, Row quotient) {
            if (dividend.compareSize(divisor) < 0) {
                quotient.fit(0);
                dividend.below = false;
            } else if (divisor.count <= 1) {
                quotient.take(dividend);
                long left = quotient.shrink(divisor.limbAt(0));
                dividend.become(left);
            } else {
                splitByLong(dividend, divisor, quotient);
            }
        }

        private static void splitByLong(Row dividend, Row divisor, Row quotient) {
            int n = divisor.count;
            int highest = dividend.count - n;
            // With the divisor's highest bit set a guessed limb is too great by 2 at most.
            int by = Integer.numberOfLeadingZeros(divisor.limbs[n - 1]);
            dividend.shiftUp(by);
            divisor.shiftUp(by);
            for (int at = highest; at >= 0; at--) {
                long limb = guess(dividend.limbs, at + n, divisor.limbs[n - 1] & LIMB_MASK,
                        divisor.limbs[n - 2] & LIMB_MASK);
                if (takeMultiple(dividend.limbs, at, divisor, limb)) {
                    putBack(dividend.limbs, at, divisor);
                    limb--;
                }
                quotient.limbs[at] = (int) limb;
            }
            quotient.fit(highest + 1);
            dividend.fit(n);
            dividend.shiftDown(by);
            divisor.shiftDown(by);
        }

        private static long guess(int[] limbs, int top, long high, long next) {
            long two = ((limbs[top] & LIMB_MASK) << LIMB_BITS) | (limbs[top - 1] & LIMB_MASK);
            long third = limbs[top - 2] & LIMB_MASK;
            // The highest limb is never above the divisor's; where both are equal the quotient has one bit too many.
            long limb = (limbs[top] & LIMB_MASK) >= high ? LIMB_MASK : unsigned(two, high);
            long left = two - limb * high;
            for (int turn = 0; turn < 2 && left <= LIMB_MASK; turn++) {
                if (limb * next + SIGN_BIT <= ((left << LIMB_BITS) | third) + SIGN_BIT) {
                    break;
                }
                limb--;
                left += high;
            }
            return limb;
        }

        // Answers whether more was taken than was there. The highest limb is not read again and so not written.
        private static boolean takeMultiple(int[] limbs, int at, Row divisor, long factor) {
            long carry = 0;
            for (int i = 0; i < divisor.count; i++) {
                carry += factor * (divisor.limbs[i] & LIMB_MASK);
                long left = (limbs[at + i] & LIMB_MASK) - (carry & LIMB_MASK);
                limbs[at + i] = (int) left;
                carry = (carry >>> LIMB_BITS) + (left < 0 ? 1 : 0);
            }
            return (limbs[at + divisor.count] & LIMB_MASK) < carry;
        }

        private static void putBack(int[] limbs, int at, Row divisor) {
            long carry = 0;
            for (int i = 0; i < divisor.count; i++) {
                carry += (limbs[at + i] & LIMB_MASK) + (divisor.limbs[i] & LIMB_MASK);
                limbs[at + i] = (int) carry;
                carry >>>= LIMB_BITS;
            }
        }

        // The dividend is read without a sign; the divisor is one limb.
        private static long unsigned(long dividend, long divisor) {
            if (divisor <= 0) {
                return 0;
            }
            if (dividend >= 0) {
                return dividend / divisor;
            }
            long quotient = ((dividend >>> 1) / divisor) << 1;
            return dividend - quotient * divisor >= divisor ? quotient + 1 : quotient;
        }
    }

    /**
     * Greatest common divisors by Lehmer's way: the leading bits alone decide many of Euclid's steps, which are
     * then done on the long numbers all at once.
     */
    private static final class Euclid {
        private static final int LEADING_BITS = 62;
        // Euclid makes fewer steps than this even with Fibonacci's numbers.
        private static final int MOST_STEPS = 2 * MOST_BITS;
        // Multiples of limbs by no more than this, one less another, fit a long with their carry.
        private static final long MOST_FACTOR = 0x7FFFFFFFL;

        // After the steps foreseen the numbers x, y are ax + by, cx + dy.
        private long a = 1;
        private long b = 0;
        private long c = 0;
        private long d = 1;

        // Uses up all three rows and answers the one that has the divisor.
        private Row greatest(Row one, Row other, Row quotient) {
            boolean inOrder = one.compareSize(other) >= 0;
            Row greater = inOrder ? one : other;
            Row smaller = inOrder ? other : one;
            for (int step = 0; step < MOST_STEPS && smaller.count > 0; step++) {
                int place = Math.max(greater.bits() - LEADING_BITS, 0);
                foresee(greater.bitsFrom(place), smaller.bitsFrom(place));
                if (b != 0) {
                    follow(greater, smaller);
                } else {
                    Division.split(greater, smaller, quotient);
                    Row left = greater;
                    greater = smaller;
                    smaller = left;
                }
            }
            greater.below = false;
            return greater;
        }

        // The true quotient lies between those of the two fractions; a step is sure while both agree.
        private void foresee(long leadingX, long leadingY) {
            long x = leadingX;
            long y = leadingY;
            a = 1;
            b = 0;
            c = 0;
            d = 1;
            for (int step = 0; step < LEADING_BITS; step++) {
                if (y + c <= 0 || y + d <= 0) {
                    break;
                }
                long quotient = (x + a) / (y + c);
                if (quotient != (x + b) / (y + d) || quotient > MOST_FACTOR) {
                    break;
                }
                long nextC = a - quotient * c;
                long nextD = b - quotient * d;
                if (Math.abs(nextC) > MOST_FACTOR || Math.abs(nextD) > MOST_FACTOR) {
                    break;
                }
                long nextY = x - quotient * y;
                a = c;
                b = d;
                x = y;
                c = nextC;
                d = nextD;
                y = nextY;
            }
        }

        private void follow(Row greater, Row smaller) {
            int n = greater.count;
            smaller.clear(smaller.count, n);
            long carryX = 0;
            long carryY = 0;
            for (int i = 0; i < n; i++) {
                long x = greater.limbs[i] & LIMB_MASK;
                long y = smaller.limbs[i] & LIMB_MASK;
                carryX += a * x + b * y;
                carryY += c * x + d * y;
                greater.limbs[i] = (int) carryX;
                smaller.limbs[i] = (int) carryY;
                carryX >>= LIMB_BITS;
                carryY >>= LIMB_BITS;
            }
            greater.fit(n);
            smaller.fit(n);
        }
    }

    /** What was printed latest. */
    private static final class Text {
        private static final int CHUNK = 1000000000;
        private static final int CHUNK_DIGITS = 9;
        // 20000 bits are 6021 digits; the sign is one character more.
        private static final int MOST_CHUNKS = 670;
        private static final int ROOM = MOST_CHUNKS * CHUNK_DIGITS + 1;

        private final byte[] characters = new byte[ROOM];
        private int start = ROOM;

        // The lowest digits come first, so the text grows from the end of its room to the front.
        private int write(Row row) {
            boolean below = row.below;
            start = ROOM;
            if (row.count == 0) {
                putBefore('0');
            }
            for (int chunk = 0; chunk < MOST_CHUNKS && row.count > 0; chunk++) {
                writeChunk((int) row.shrink(CHUNK), row.count > 0);
            }
            if (below) {
                putBefore('-');
            }
            return ROOM - start;
        }

        private void writeChunk(int chunk, boolean whole) {
            int left = chunk;
            for (int i = 0; i < CHUNK_DIGITS && (whole || left > 0); i++) {
                putBefore('0' + left % 10);
                left /= 10;
            }
        }

        private void putBefore(int character) {
            if (start > 0) {
                start--;
                characters[start] = (byte) character;
            }
        }

        private int at(int i) {
            return i < 0 || i >= ROOM - start ? NONE : characters[start + i];
        }
    }
}
