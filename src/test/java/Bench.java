import java.math.BigInteger;

/** A CurveDesk with whole numbers, points and byte rows for the tests to hand in and read. */
final class Bench {
    static final BigInteger TWO_256 = BigInteger.ONE.shiftLeft(256);
    static final BigInteger HIGHEST = TWO_256.subtract(BigInteger.ONE);
    static final int[] NO_REGISTERS = {-1, 8, 9, Integer.MIN_VALUE, Integer.MAX_VALUE};
    static final int[] NO_SPOTS = {-1, 4, 5, 7, Integer.MIN_VALUE, Integer.MAX_VALUE};

    final CurveDesk desk = new CurveDesk();

    static BigInteger big(long value) {
        return BigInteger.valueOf(value);
    }

    static long longOf(BigInteger number, int k) {
        return number.shiftRight(64 * (3 - k)).longValue();
    }

    boolean write(int r, BigInteger n) {
        return desk.set(r, longOf(n, 0), longOf(n, 1), longOf(n, 2), longOf(n, 3));
    }

    BigInteger read(int r) {
        BigInteger number = BigInteger.ZERO;
        for (int k = 0; k < 4; k++) {
            number = number.shiftLeft(64).or(new BigInteger(Long.toUnsignedString(desk.get(r, k))));
        }
        return number;
    }

    /** Gives spot q a point through registers 6 and 7, which keep their numbers. */
    int writePoint(int q, Model.Pair point) {
        if (point == null) {
            return desk.spot(0, q, 0, 0);
        }
        BigInteger six = read(6);
        BigInteger seven = read(7);
        write(6, point.x());
        write(7, point.y());
        int answer = desk.spot(2, q, 6, 7);
        write(6, six);
        write(7, seven);
        return answer;
    }

    /** Reads spot q through registers 6 and 7, which keep their numbers; null for NONE. */
    Model.Pair readPoint(int q) {
        BigInteger six = read(6);
        BigInteger seven = read(7);
        Model.Pair point = desk.place(q, 6, 7) == 1 ? new Model.Pair(read(6), read(7)) : null;
        write(6, six);
        write(7, seven);
        return point;
    }

    void putAll(int... bytes) {
        for (int value : bytes) {
            desk.put(value, 1);
        }
    }

    void putNumber(BigInteger number) {
        for (int k = 0; k < 4; k++) {
            desk.put(longOf(number, k), 8);
        }
    }

    /** All that can be seen without touching the bytes. */
    String state() {
        StringBuilder text = new StringBuilder();
        for (int r = 0; r < 8; r++) {
            text.append(read(r).toString(16)).append(' ');
        }
        for (int q = 0; q < 4; q++) {
            text.append(readPoint(q)).append(' ');
        }
        return text.toString();
    }
}
