/**
 * Numbers modulo two primes of 256 bits, the points of a curve over the first one, keys and
 * signatures as bytes, and whether a signature fits a digest and a key.
 *
 * <p>Inside, a number is eight limbs of 32 bits, the lowest first, each in a long of its own: so the
 * product of two limbs and two limbs more still fit one long. All rows are made by the constructor,
 * no call makes an object.
 */
public final class CurveDesk {
    private static final int REGISTERS = 8;
    private static final int SPOTS = 4;
    private static final int MODULI = 2;
    private static final int MOST_BYTES = 100;

    private static final int LIMBS = 8;
    private static final int LIMB_BITS = 32;
    private static final int NUMBER_BITS = 256;
    private static final int NUMBER_BYTES = 32;
    private static final long LIMB_MASK = 0xFFFFFFFFL;

    private static final int ADD = 0;
    private static final int SUBTRACT = 1;
    private static final int MULTIPLY = 2;
    private static final int DIVIDE = 3;

    private static final int KIND_NONE = 0;
    private static final int KIND_BASE = 1;
    private static final int KIND_REGISTERS = 2;

    private static final int KEY_EVEN = 2;
    private static final int KEY_ODD = 3;
    private static final int KEY_WHOLE = 4;

    private static final int SIGNATURE_MARK = 48;
    private static final int NUMBER_MARK = 2;

    private static final long[] ZERO = {0L, 0L, 0L, 0L, 0L, 0L, 0L, 0L};
    private static final long[] ONE = {1L, 0L, 0L, 0L, 0L, 0L, 0L, 0L};
    private static final long[] SEVEN = {7L, 0L, 0L, 0L, 0L, 0L, 0L, 0L};

    private static final long[] P = {
        0xFFFFFC2FL, 0xFFFFFFFEL, 0xFFFFFFFFL, 0xFFFFFFFFL,
        0xFFFFFFFFL, 0xFFFFFFFFL, 0xFFFFFFFFL, 0xFFFFFFFFL};
    private static final long[] P_GAP = {0x000003D1L, 0x00000001L};
    private static final long[] P_LESS_TWO = {
        0xFFFFFC2DL, 0xFFFFFFFEL, 0xFFFFFFFFL, 0xFFFFFFFFL,
        0xFFFFFFFFL, 0xFFFFFFFFL, 0xFFFFFFFFL, 0xFFFFFFFFL};
    private static final long[] P_MORE_ONE_BY_FOUR = {
        0xBFFFFF0CL, 0xFFFFFFFFL, 0xFFFFFFFFL, 0xFFFFFFFFL,
        0xFFFFFFFFL, 0xFFFFFFFFL, 0xFFFFFFFFL, 0x3FFFFFFFL};

    private static final long[] N = {
        0xD0364141L, 0xBFD25E8CL, 0xAF48A03BL, 0xBAAEDCE6L,
        0xFFFFFFFEL, 0xFFFFFFFFL, 0xFFFFFFFFL, 0xFFFFFFFFL};
    private static final long[] N_GAP = {
        0x2FC9BEBFL, 0x402DA173L, 0x50B75FC4L, 0x45512319L, 0x00000001L};
    private static final long[] N_LESS_TWO = {
        0xD036413FL, 0xBFD25E8CL, 0xAF48A03BL, 0xBAAEDCE6L,
        0xFFFFFFFEL, 0xFFFFFFFFL, 0xFFFFFFFFL, 0xFFFFFFFFL};

    private static final long[] BASE_X = {
        0x16F81798L, 0x59F2815BL, 0x2DCE28D9L, 0x029BFCDBL,
        0xCE870B07L, 0x55A06295L, 0xF9DCBBACL, 0x79BE667EL};
    private static final long[] BASE_Y = {
        0xFB10D4B8L, 0x9C47D08FL, 0xA6855419L, 0xFD17B448L,
        0x0E1108A8L, 0x5DA4FBFCL, 0x26A3C465L, 0x483ADA77L};

    private final long[][] registers = new long[REGISTERS][LIMBS];
    private final Point[] spots = new Point[SPOTS];
    private final Hand hand = new Hand();
    private final Modulus field = new Modulus(P, P_GAP, P_LESS_TWO);
    private final Modulus order = new Modulus(N, N_GAP, N_LESS_TWO);
    private final Curve curve = new Curve(field);
    private final Point base = new Point();
    private final Point met = new Point();
    private final long[] first = new long[LIMBS];
    private final long[] second = new long[LIMBS];

    /** All numbers 0, all spots NONE, no bytes. */
    public CurveDesk() {
        for (int q = 0; q < SPOTS; q++) {
            spots[q] = new Point();
        }
        base.become(BASE_X, BASE_Y);
    }

    /** Register r becomes the number of four longs, the highest first; false for no such register. */
    public boolean set(int r, long a, long b, long c, long d) {
        if (!isRegister(r)) {
            return false;
        }
        long[] number = registers[r];
        Limbs.setLong(number, 0, a);
        Limbs.setLong(number, 1, b);
        Limbs.setLong(number, 2, c);
        Limbs.setLong(number, 3, d);
        return true;
    }

    /** Long k of register r, 0 being the highest; 0 for no such one. */
    public long get(int r, int k) {
        if (!isRegister(r) || k < 0 || k > 3) {
            return 0;
        }
        return Limbs.longOf(registers[r], k);
    }

    /** Register r becomes what modulus m leaves of it; false for no such register or modulus. */
    public boolean reduce(int r, int m) {
        if (!isRegister(r) || !isModulus(m)) {
            return false;
        }
        modulusOf(m).bringBelow(registers[r]);
        return true;
    }

    /** Register r becomes the sum, difference, product or quotient of s and t: 1; 0 if refused. */
    public int work(int kind, int r, int s, int t, int m) {
        if (kind < ADD || kind > DIVIDE || !isModulus(m)) {
            return 0;
        }
        if (!isRegister(r) || !isRegister(s) || !isRegister(t)) {
            return 0;
        }
        Modulus modulus = modulusOf(m);
        long[] left = registers[s];
        long[] right = registers[t];
        if (!modulus.isAbove(left) || !modulus.isAbove(right)) {
            return 0;
        }
        if (kind == DIVIDE && Limbs.isZero(right)) {
            return 0;
        }
        switch (kind) {
            case ADD:
                modulus.add(registers[r], left, right);
                break;
            case SUBTRACT:
                modulus.subtract(registers[r], left, right);
                break;
            case MULTIPLY:
                modulus.multiply(registers[r], left, right);
                break;
            default:
                modulus.invert(first, right);
                modulus.multiply(registers[r], left, first);
                break;
        }
        return 1;
    }

    /** Register r becomes the even root of register s modulo P: 1; 0 if refused. */
    public int root(int r, int s) {
        if (!isRegister(r) || !isRegister(s) || !field.isAbove(registers[s])) {
            return 0;
        }
        if (!curve.findEvenRoot(first, registers[s])) {
            return 0;
        }
        Limbs.copy(registers[r], first);
        return 1;
    }

    /** Spot q becomes NONE, the base, or the point of registers r and s: 1; 0 if refused. */
    public int spot(int kind, int q, int r, int s) {
        if (!isSpot(q)) {
            return 0;
        }
        switch (kind) {
            case KIND_NONE:
                spots[q].becomeNone();
                return 1;
            case KIND_BASE:
                spots[q].become(BASE_X, BASE_Y);
                return 1;
            case KIND_REGISTERS:
                return isRegister(r) && isRegister(s) && fillSpot(q, registers[r], registers[s])
                        ? 1 : 0;
            default:
                return 0;
        }
    }

    /** Spot q becomes the sum of spots a and b; false for no such spot. */
    public boolean sum(int q, int a, int b) {
        if (!isSpot(q) || !isSpot(a) || !isSpot(b)) {
            return false;
        }
        curve.addTwo(spots[q], spots[a], spots[b]);
        return true;
    }

    /** Spot q becomes register r times spot a; false for no such spot or register. */
    public boolean times(int q, int a, int r) {
        if (!isSpot(q) || !isSpot(a) || !isRegister(r)) {
            return false;
        }
        curve.addMultiples(spots[q], registers[r], spots[a], ZERO, spots[a]);
        return true;
    }

    /** Registers r and s become x and y of spot q: 1; 0 if that is NONE; -1 if refused. */
    public int place(int q, int r, int s) {
        if (!isSpot(q) || !areTwoRegisters(r, s)) {
            return -1;
        }
        if (spots[q].none) {
            return 0;
        }
        Limbs.copy(registers[r], spots[q].x);
        Limbs.copy(registers[s], spots[q].y);
        return 1;
    }

    /** The lowest n bytes of v come behind the bytes in hand; false if n or the room forbids it. */
    public boolean put(long v, int n) {
        return hand.append(v, n);
    }

    /** The bytes in hand are taken as a key for spot q: 1; 0 if they are none; -1 if refused. */
    public int key(int q) {
        if (!isSpot(q)) {
            return -1;
        }
        int length = hand.takeAll();
        if (length == 1 + NUMBER_BYTES) {
            return fillFromShortKey(q) ? 1 : 0;
        }
        if (length == 1 + 2 * NUMBER_BYTES) {
            return fillFromWholeKey(q) ? 1 : 0;
        }
        return 0;
    }

    /** The bytes in hand are taken as a signature r, s: 1; 0 if they are none; -1 if refused. */
    public int signature(int r, int s) {
        if (!areTwoRegisters(r, s)) {
            return -1;
        }
        int length = hand.takeAll();
        if (!hand.readSignature(first, second, length)) {
            return 0;
        }
        Limbs.copy(registers[r], first);
        Limbs.copy(registers[s], second);
        return 1;
    }

    /** Whether the signature of registers r and s fits register z and spot q: 1 or 0; -1 if refused. */
    public int fits(int q, int r, int s, int z) {
        if (!isSpot(q) || !isRegister(r) || !isRegister(s) || !isRegister(z)) {
            return -1;
        }
        if (spots[q].none || !isUnit(registers[r]) || !isUnit(registers[s])) {
            return 0;
        }
        order.invert(second, registers[s]);
        Limbs.copy(first, registers[z]);
        order.bringBelow(first);
        order.multiply(first, first, second);
        order.multiply(second, second, registers[r]);
        curve.addMultiples(met, first, base, second, spots[q]);
        if (met.none) {
            return 0;
        }
        Limbs.copy(first, met.x);
        order.bringBelow(first);
        return Limbs.areSame(first, registers[r]) ? 1 : 0;
    }

    private static boolean isRegister(int r) {
        return r >= 0 && r < REGISTERS;
    }

    private static boolean areTwoRegisters(int r, int s) {
        return isRegister(r) && isRegister(s) && r != s;
    }

    private static boolean isSpot(int q) {
        return q >= 0 && q < SPOTS;
    }

    private static boolean isModulus(int m) {
        return m >= 0 && m < MODULI;
    }

    private Modulus modulusOf(int m) {
        return m == 0 ? field : order;
    }

    /** Whether a number is 1 .. N - 1. */
    private boolean isUnit(long[] number) {
        return !Limbs.isZero(number) && order.isAbove(number);
    }

    private boolean fillSpot(int q, long[] x, long[] y) {
        if (!curve.isPoint(x, y)) {
            return false;
        }
        spots[q].become(x, y);
        return true;
    }

    private boolean fillFromShortKey(int q) {
        int mark = hand.firstByte();
        if (mark != KEY_EVEN && mark != KEY_ODD) {
            return false;
        }
        hand.readNumber(first, 1, NUMBER_BYTES);
        if (!field.isAbove(first)) {
            return false;
        }
        curve.findSquareOfY(second, first);
        if (!curve.findEvenRoot(second, second)) {
            return false;
        }
        // No point has y = 0, since N is odd: the other root is always the odd one.
        if (mark == KEY_ODD) {
            field.subtract(second, ZERO, second);
        }
        spots[q].become(first, second);
        return true;
    }

    private boolean fillFromWholeKey(int q) {
        if (hand.firstByte() != KEY_WHOLE) {
            return false;
        }
        hand.readNumber(first, 1, NUMBER_BYTES);
        hand.readNumber(second, 1 + NUMBER_BYTES, NUMBER_BYTES);
        return fillSpot(q, first, second);
    }

    /** What can be done with numbers as rows of limbs, before any modulus. */
    private static final class Limbs {
        static void copy(long[] out, long[] a) {
            System.arraycopy(a, 0, out, 0, LIMBS);
        }

        static void setLong(long[] out, int k, long value) {
            int low = LIMBS - 2 - 2 * k;
            out[low] = value & LIMB_MASK;
            out[low + 1] = value >>> LIMB_BITS;
        }

        static long longOf(long[] a, int k) {
            int low = LIMBS - 2 - 2 * k;
            return a[low + 1] << LIMB_BITS | a[low];
        }

        static boolean isZero(long[] a) {
            return areSame(a, ZERO);
        }

        static boolean isOdd(long[] a) {
            return (a[0] & 1) != 0;
        }

        static boolean hasBit(long[] a, int i) {
            return (a[i / LIMB_BITS] >>> (i % LIMB_BITS) & 1) != 0;
        }

        static boolean areSame(long[] a, long[] b) {
            for (int i = 0; i < LIMBS; i++) {
                if (a[i] != b[i]) {
                    return false;
                }
            }
            return true;
        }

        static boolean isBelow(long[] a, long[] b) {
            for (int i = LIMBS - 1; i >= 0; i--) {
                if (a[i] != b[i]) {
                    return a[i] < b[i];
                }
            }
            return false;
        }

        /** out becomes a + b without its carry, which is the answer. */
        static long add(long[] out, long[] a, long[] b) {
            long carry = 0;
            for (int i = 0; i < LIMBS; i++) {
                long whole = a[i] + b[i] + carry;
                out[i] = whole & LIMB_MASK;
                carry = whole >>> LIMB_BITS;
            }
            return carry;
        }

        /** out becomes a - b, with 2 ^ 256 borrowed if need be; the answer is how often. */
        static long subtract(long[] out, long[] a, long[] b) {
            long borrow = 0;
            for (int i = 0; i < LIMBS; i++) {
                long whole = a[i] - b[i] - borrow;
                out[i] = whole & LIMB_MASK;
                borrow = whole < 0 ? 1 : 0;
            }
            return borrow;
        }
    }

    /**
     * Arithmetic modulo a prime that is 2 ^ 256 less a gap of little more than half the bits. Numbers
     * handed in are below the prime, but where it says otherwise; out may be one of them.
     */
    private static final class Modulus {
        private final long[] prime;
        private final long[] gap;
        private final long[] primeLessTwo;
        private final long[] wide = new long[2 * LIMBS];
        private final long[] high = new long[LIMBS];
        private final long[] raised = new long[LIMBS];

        Modulus(long[] prime, long[] gap, long[] primeLessTwo) {
            this.prime = prime;
            this.gap = gap;
            this.primeLessTwo = primeLessTwo;
        }

        /** For any number: whether the prime is above it. */
        boolean isAbove(long[] number) {
            return Limbs.isBelow(number, prime);
        }

        /** For any number; one step is enough, since two primes make more than 2 ^ 256. */
        void bringBelow(long[] number) {
            if (!isAbove(number)) {
                Limbs.subtract(number, number, prime);
            }
        }

        void add(long[] out, long[] a, long[] b) {
            long carry = Limbs.add(out, a, b);
            if (carry != 0 || !isAbove(out)) {
                Limbs.subtract(out, out, prime);
            }
        }

        void subtract(long[] out, long[] a, long[] b) {
            long borrow = Limbs.subtract(out, a, b);
            if (borrow != 0) {
                Limbs.add(out, out, prime);
            }
        }

        /**
         * Four folds always do. With the wider gap G < 1.3 * 2 ^ 128, what stands above 2 ^ 256 is at
         * most G behind the first, 2 behind the second, 1 behind the third (and then what stands
         * below is less than G), and 0 behind the fourth.
         */
        void multiply(long[] out, long[] a, long[] b) {
            for (int i = 0; i < wide.length; i++) {
                wide[i] = 0;
            }
            for (int i = 0; i < LIMBS; i++) {
                addProduct(a[i], b, LIMBS, i);
            }
            fold(LIMBS);
            fold(gap.length);
            fold(1);
            fold(1);
            Limbs.copy(out, wide);
            bringBelow(out);
        }

        /** out becomes 1 / a, since a to the power of the prime less one is 1; a is not 0. */
        void invert(long[] out, long[] a) {
            raise(out, a, primeLessTwo);
        }

        void raise(long[] out, long[] a, long[] power) {
            Limbs.copy(raised, ONE);
            for (int i = NUMBER_BITS - 1; i >= 0; i--) {
                multiply(raised, raised, raised);
                if (Limbs.hasBit(power, i)) {
                    multiply(raised, raised, a);
                }
            }
            Limbs.copy(out, raised);
        }

        /** Takes away what the wide row's count limbs above 2 ^ 256 say, and adds as many gaps. */
        private void fold(int count) {
            for (int i = 0; i < count; i++) {
                high[i] = wide[LIMBS + i];
                wide[LIMBS + i] = 0;
            }
            for (int j = 0; j < gap.length; j++) {
                addProduct(gap[j], high, count, j);
            }
        }

        /** Adds factor times a's lowest count limbs to the wide row, from its limb k on. */
        private void addProduct(long factor, long[] a, int count, int k) {
            long carry = 0;
            int at = k;
            for (int i = 0; i < count; i++) {
                long whole = factor * a[i] + wide[at] + carry;
                wide[at] = whole & LIMB_MASK;
                carry = whole >>> LIMB_BITS;
                at++;
            }
            while (carry != 0 && at < wide.length) {
                long whole = wide[at] + carry;
                wide[at] = whole & LIMB_MASK;
                carry = whole >>> LIMB_BITS;
                at++;
            }
        }
    }

    /** The bytes in hand. Taken ones can be read until the next are put. */
    private static final class Hand {
        private final int[] bytes = new int[MOST_BYTES];
        private int count = 0;

        boolean append(long v, int n) {
            if (n < 1 || n > 8 || count + n > MOST_BYTES) {
                return false;
            }
            for (int i = n - 1; i >= 0; i--) {
                bytes[count] = (int) (v >>> (8 * i)) & 255;
                count++;
            }
            return true;
        }

        /** How many bytes there were; none are in hand then. */
        int takeAll() {
            int taken = count;
            count = 0;
            return taken;
        }

        int firstByte() {
            return bytes[0];
        }

        /** out becomes the number of so many bytes; of 33, the first one is 0. */
        void readNumber(long[] out, int from, int length) {
            Limbs.copy(out, ZERO);
            int last = from + length - 1;
            for (int i = 0; i < length && i < NUMBER_BYTES; i++) {
                out[i / 4] |= (long) bytes[last - i] << (8 * (i % 4));
            }
        }

        /** Whether the first end bytes are a signature; r and s become its numbers then. */
        boolean readSignature(long[] r, long[] s, int end) {
            if (end < 2 || bytes[0] != SIGNATURE_MARK || bytes[1] != end - 2) {
                return false;
            }
            int behindR = readPart(r, 2, end);
            return behindR > 0 && readPart(s, behindR, end) == end;
        }

        /** Reads one of a signature's numbers; the answer is where it ends, or -1 if it is none. */
        private int readPart(long[] out, int from, int end) {
            if (from + 2 > end || bytes[from] != NUMBER_MARK) {
                return -1;
            }
            int start = from + 2;
            int length = bytes[from + 1];
            if (length < 1 || length > 1 + NUMBER_BYTES || start + length > end) {
                return -1;
            }
            if (!isWellWritten(start, length)) {
                return -1;
            }
            readNumber(out, start, length);
            return start + length;
        }

        /** Whether so many bytes are a number below 2 ^ 256 with no sign and no 0 too many. */
        private boolean isWellWritten(int start, int length) {
            int highest = bytes[start];
            if (highest == 0) {
                return length == 1 || bytes[start + 1] >= 128;
            }
            return highest < 128 && length <= NUMBER_BYTES;
        }
    }

    /** A point of the curve; x and y say nothing while it is NONE. */
    private static final class Point {
        boolean none = true;
        final long[] x = new long[LIMBS];
        final long[] y = new long[LIMBS];

        void becomeNone() {
            none = true;
        }

        void become(long[] newX, long[] newY) {
            none = false;
            Limbs.copy(x, newX);
            Limbs.copy(y, newY);
        }
    }

    /**
     * The curve, with a running sum of points. The sum is x / z ^ 2 and y / z ^ 3, or NONE with z = 0:
     * so only its end needs a division, which costs as much as some fifty steps.
     */
    private static final class Curve {
        private final Modulus field;
        private final long[] x = new long[LIMBS];
        private final long[] y = new long[LIMBS];
        private final long[] z = new long[LIMBS];
        private final long[] a = new long[LIMBS];
        private final long[] b = new long[LIMBS];
        private final long[] c = new long[LIMBS];

        Curve(Modulus field) {
            this.field = field;
        }

        /** For any two numbers. */
        boolean isPoint(long[] px, long[] py) {
            if (!field.isAbove(px) || !field.isAbove(py)) {
                return false;
            }
            findSquareOfY(a, px);
            field.multiply(b, py, py);
            return Limbs.areSame(a, b);
        }

        void findSquareOfY(long[] out, long[] px) {
            field.multiply(c, px, px);
            field.multiply(c, c, px);
            field.add(out, c, SEVEN);
        }

        /** P leaves 3 by 4, so a square's root is its power (P + 1) / 4; false if it is no square. */
        boolean findEvenRoot(long[] out, long[] square) {
            field.raise(a, square, P_MORE_ONE_BY_FOUR);
            field.multiply(b, a, a);
            if (!Limbs.areSame(b, square)) {
                return false;
            }
            if (Limbs.isOdd(a)) {
                field.subtract(a, ZERO, a);
            }
            Limbs.copy(out, a);
            return true;
        }

        void addTwo(Point out, Point p, Point q) {
            startSum();
            include(p);
            include(q);
            storeSum(out);
        }

        /** out becomes k times p and l times q together, for any numbers k and l. */
        void addMultiples(Point out, long[] k, Point p, long[] l, Point q) {
            startSum();
            for (int i = NUMBER_BITS - 1; i >= 0; i--) {
                doubleSum();
                if (Limbs.hasBit(k, i)) {
                    include(p);
                }
                if (Limbs.hasBit(l, i)) {
                    include(q);
                }
            }
            storeSum(out);
        }

        private void startSum() {
            Limbs.copy(z, ZERO);
        }

        private void include(Point p) {
            if (p.none) {
                return;
            }
            if (Limbs.isZero(z)) {
                Limbs.copy(x, p.x);
                Limbs.copy(y, p.y);
                Limbs.copy(z, ONE);
                return;
            }
            findDifferences(p);
            if (!Limbs.isZero(b)) {
                moveAlongLine();
            } else if (Limbs.isZero(c)) {
                doubleSum();
            } else {
                startSum();
            }
        }

        /** b and c become how far p's x and y are from the sum's, times z ^ 2 and z ^ 3. */
        private void findDifferences(Point p) {
            field.multiply(a, z, z);
            field.multiply(b, p.x, a);
            field.multiply(a, a, z);
            field.multiply(c, p.y, a);
            field.subtract(b, b, x);
            field.subtract(c, c, y);
        }

        /** The document's sum of two unlike points, s being c / (z * b). */
        private void moveAlongLine() {
            field.multiply(z, z, b);
            field.multiply(a, b, b);
            field.multiply(b, a, b);
            field.multiply(a, a, x);
            field.multiply(x, c, c);
            field.subtract(x, x, b);
            field.subtract(x, x, a);
            field.subtract(x, x, a);
            field.subtract(a, a, x);
            field.multiply(a, a, c);
            field.multiply(b, b, y);
            field.subtract(y, a, b);
        }

        /** The document's sum of two like points, s being 3 * x * x / (2 * y * z). */
        private void doubleSum() {
            if (Limbs.isZero(z)) {
                return;
            }
            field.multiply(z, z, y);
            field.add(z, z, z);
            field.multiply(a, y, y);
            field.add(a, a, a);
            field.multiply(b, a, x);
            field.add(b, b, b);
            field.multiply(x, x, x);
            field.add(c, x, x);
            field.add(c, c, x);
            field.multiply(x, c, c);
            field.subtract(x, x, b);
            field.subtract(x, x, b);
            field.subtract(b, b, x);
            field.multiply(b, b, c);
            field.multiply(a, a, a);
            field.add(a, a, a);
            field.subtract(y, b, a);
        }

        private void storeSum(Point out) {
            if (Limbs.isZero(z)) {
                out.becomeNone();
                return;
            }
            // Not through invert, which would make the deepest run of calls one longer.
            field.raise(a, z, P_LESS_TWO);
            field.multiply(b, a, a);
            field.multiply(a, a, b);
            field.multiply(x, x, b);
            field.multiply(y, y, a);
            out.become(x, y);
        }
    }
}
