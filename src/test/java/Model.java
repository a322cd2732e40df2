import java.math.BigInteger;

/** The document's words over BigInteger, as plainly as they stand there: what CurveDesk is held against. */
final class Model {
    record Pair(BigInteger x, BigInteger y) { }

    static final BigInteger P = BigInteger.TWO.pow(256).subtract(BigInteger.TWO.pow(32))
            .subtract(BigInteger.valueOf(977));
    static final BigInteger N = new BigInteger(
            "115792089237316195423570985008687907852837564279074904382605163141518161494337");
    static final Pair BASE = new Pair(
            new BigInteger("55066263022277343669578718895168534326250603453777594175500187360389116729240"),
            new BigInteger("32670510020758816978083085130507043184471273380659243275938904335757337482424"));

    private static final BigInteger SEVEN = BigInteger.valueOf(7);
    private static final BigInteger THREE = BigInteger.valueOf(3);

    final BigInteger[] registers = new BigInteger[8];
    final Pair[] spots = new Pair[4];
    private int[] bytes = new int[0];

    Model() {
        java.util.Arrays.fill(registers, BigInteger.ZERO);
    }

    static boolean isPoint(BigInteger x, BigInteger y) {
        return x.compareTo(P) < 0 && y.compareTo(P) < 0
                && y.multiply(y).subtract(x.pow(3)).subtract(SEVEN).mod(P).signum() == 0;
    }

    static Pair add(Pair a, Pair b) {
        if (a == null || b == null) {
            return a == null ? b : a;
        }
        if (a.x.equals(b.x) && !a.y.equals(b.y)) {
            return null;
        }
        BigInteger slope = a.equals(b)
                ? THREE.multiply(a.x).multiply(a.x).multiply(a.y.shiftLeft(1).modInverse(P))
                : b.y.subtract(a.y).multiply(b.x.subtract(a.x).modInverse(P));
        BigInteger x = slope.multiply(slope).subtract(a.x).subtract(b.x).mod(P);
        return new Pair(x, slope.multiply(a.x.subtract(x)).subtract(a.y).mod(P));
    }

    static Pair times(BigInteger k, Pair a) {
        Pair result = null;
        for (int i = k.bitLength() - 1; i >= 0; i--) {
            result = add(result, result);
            if (k.testBit(i)) {
                result = add(result, a);
            }
        }
        return result;
    }

    static Pair minus(Pair a) {
        return new Pair(a.x, P.subtract(a.y));
    }

    /** The even root below P, or null. */
    static BigInteger root(BigInteger square) {
        BigInteger found = square.modPow(P.add(BigInteger.ONE).shiftRight(2), P);
        if (!found.multiply(found).mod(P).equals(square)) {
            return null;
        }
        return found.testBit(0) ? P.subtract(found) : found;
    }

    /** The point with that x and an even or odd y, or null. */
    static Pair lift(BigInteger x, boolean odd) {
        BigInteger y = x.compareTo(P) < 0 ? root(x.pow(3).add(SEVEN).mod(P)) : null;
        if (y == null) {
            return null;
        }
        return new Pair(x, odd ? P.subtract(y) : y);
    }

    static boolean fits(Pair key, BigInteger r, BigInteger s, BigInteger z) {
        if (key == null || r.signum() == 0 || s.signum() == 0
                || r.compareTo(N) >= 0 || s.compareTo(N) >= 0) {
            return false;
        }
        BigInteger inverse = s.modInverse(N);
        Pair met = add(times(z.multiply(inverse).mod(N), BASE), times(r.multiply(inverse).mod(N), key));
        return met != null && met.x.mod(N).equals(r);
    }

    int work(int kind, int r, int s, int t, int m) {
        if (kind < 0 || kind > 3 || noRegister(r) || noRegister(s) || noRegister(t) || m < 0 || m > 1) {
            return 0;
        }
        BigInteger modulus = m == 0 ? P : N;
        BigInteger a = registers[s];
        BigInteger b = registers[t];
        if (a.compareTo(modulus) >= 0 || b.compareTo(modulus) >= 0 || kind == 3 && b.signum() == 0) {
            return 0;
        }
        BigInteger result = switch (kind) {
            case 0 -> a.add(b);
            case 1 -> a.subtract(b);
            case 2 -> a.multiply(b);
            default -> a.multiply(b.modInverse(modulus));
        };
        registers[r] = result.mod(modulus);
        return 1;
    }

    boolean reduce(int r, int m) {
        if (noRegister(r) || m < 0 || m > 1) {
            return false;
        }
        registers[r] = registers[r].mod(m == 0 ? P : N);
        return true;
    }

    int root(int r, int s) {
        if (noRegister(r) || noRegister(s) || registers[s].compareTo(P) >= 0) {
            return 0;
        }
        BigInteger found = root(registers[s]);
        if (found == null) {
            return 0;
        }
        registers[r] = found;
        return 1;
    }

    int spot(int kind, int q, int r, int s) {
        if (noSpot(q) || kind < 0 || kind > 2) {
            return 0;
        }
        if (kind == 2 && (noRegister(r) || noRegister(s) || !isPoint(registers[r], registers[s]))) {
            return 0;
        }
        spots[q] = kind == 0 ? null : kind == 1 ? BASE : new Pair(registers[r], registers[s]);
        return 1;
    }

    boolean sum(int q, int a, int b) {
        if (noSpot(q) || noSpot(a) || noSpot(b)) {
            return false;
        }
        spots[q] = add(spots[a], spots[b]);
        return true;
    }

    boolean times(int q, int a, int r) {
        if (noSpot(q) || noSpot(a) || noRegister(r)) {
            return false;
        }
        spots[q] = times(registers[r], spots[a]);
        return true;
    }

    int place(int q, int r, int s) {
        if (noSpot(q) || noRegister(r) || noRegister(s) || r == s) {
            return -1;
        }
        if (spots[q] == null) {
            return 0;
        }
        registers[r] = spots[q].x;
        registers[s] = spots[q].y;
        return 1;
    }

    boolean put(long v, int n) {
        if (n < 1 || n > 8 || bytes.length + n > 100) {
            return false;
        }
        int[] longer = java.util.Arrays.copyOf(bytes, bytes.length + n);
        for (int i = 0; i < n; i++) {
            longer[longer.length - 1 - i] = (int) (v >> 8 * i & 255);
        }
        bytes = longer;
        return true;
    }

    int key(int q) {
        if (noSpot(q)) {
            return -1;
        }
        int[] taken = bytes;
        bytes = new int[0];
        Pair found = keyOf(taken);
        if (found == null) {
            return 0;
        }
        spots[q] = found;
        return 1;
    }

    private static Pair keyOf(int[] taken) {
        if (taken.length == 33 && (taken[0] == 2 || taken[0] == 3)) {
            return lift(number(taken, 1, 32), taken[0] == 3);
        }
        if (taken.length != 65 || taken[0] != 4) {
            return null;
        }
        Pair told = new Pair(number(taken, 1, 32), number(taken, 33, 32));
        return isPoint(told.x, told.y) ? told : null;
    }

    int signature(int r, int s) {
        if (noRegister(r) || noRegister(s) || r == s) {
            return -1;
        }
        int[] taken = bytes;
        bytes = new int[0];
        for (int first = 1; first <= 33; first++) {
            int second = taken.length - 6 - first;
            if (second >= 1 && second <= 33 && isSignature(taken, first, second)) {
                registers[r] = number(taken, 4, first);
                registers[s] = number(taken, 6 + first, second);
                return 1;
            }
        }
        return 0;
    }

    private static boolean isSignature(int[] taken, int first, int second) {
        return taken[0] == 48 && taken[1] == taken.length - 2
                && taken[2] == 2 && taken[3] == first && isNumber(taken, 4, first)
                && taken[4 + first] == 2 && taken[5 + first] == second
                && isNumber(taken, 6 + first, second);
    }

    private static boolean isNumber(int[] taken, int from, int length) {
        return number(taken, from, length).bitLength() <= 256 && taken[from] < 128
                && (taken[from] != 0 || length == 1 || taken[from + 1] >= 128);
    }

    private static BigInteger number(int[] taken, int from, int length) {
        BigInteger number = BigInteger.ZERO;
        for (int i = 0; i < length; i++) {
            number = number.shiftLeft(8).or(BigInteger.valueOf(taken[from + i]));
        }
        return number;
    }

    int fits(int q, int r, int s, int z) {
        if (noSpot(q) || noRegister(r) || noRegister(s) || noRegister(z)) {
            return -1;
        }
        return fits(spots[q], registers[r], registers[s], registers[z]) ? 1 : 0;
    }

    private static boolean noRegister(int r) {
        return r < 0 || r > 7;
    }

    private static boolean noSpot(int q) {
        return q < 0 || q > 3;
    }
}
