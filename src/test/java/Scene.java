import java.math.BigInteger;
import java.util.Arrays;

/**
 * A desk on which everything has something to lose, and beside it what it should hold. A test says
 * what its calls answer and what becomes of the desk by them; all that it does not say must stay as
 * it was, the bytes in hand too. Each report starts with the document's sentence.
 */
final class Scene {
    /** One call of the face. */
    interface Call {
        Object on(CurveDesk desk);
    }

    static final Model.Pair TWO_BASES = Model.add(Model.BASE, Model.BASE);

    /** A key and a signature, which show whether the bytes before them are those that were put. */
    private static final int[] KEY = keyOf(Model.BASE);
    private static final int[] SIGNATURE = {48, 6, 2, 1, 5, 2, 1, 6};

    private final Check check;
    private final String sentence;
    private final Bench bench = new Bench();
    private final BigInteger[] numbers = new BigInteger[8];
    private final Model.Pair[] points = {Model.BASE, null, TWO_BASES, Model.minus(Model.BASE)};
    private int[] bytes = {};

    Scene(Check check, String sentence) {
        this.check = check;
        this.sentence = sentence;
        for (int q = 0; q < 4; q++) {
            bench.writePoint(q, points[q]);
        }
        for (int r = 0; r < 8; r++) {
            number(r, mark(r));
        }
        hand(4, KEY[1], KEY[2]);
    }

    /** What register r has at first: below both moduli, and in no two registers the same. */
    static BigInteger mark(int r) {
        return BigInteger.valueOf(r + 3L).multiply(new BigInteger("0123456789ABCDEF".repeat(4), 16));
    }

    /** The 65 bytes of a point. */
    static int[] keyOf(Model.Pair point) {
        int[] all = new int[65];
        all[0] = 4;
        System.arraycopy(bytesOf(point.x(), 32), 0, all, 1, 32);
        System.arraycopy(bytesOf(point.y(), 32), 0, all, 33, 32);
        return all;
    }

    /** The 33 bytes with that first one. */
    static int[] keyOf(int mark, BigInteger x) {
        int[] all = new int[33];
        all[0] = mark;
        System.arraycopy(bytesOf(x, 32), 0, all, 1, 32);
        return all;
    }

    /** So many bytes, the highest first. */
    static int[] bytesOf(BigInteger number, int length) {
        int[] bytes = new int[length];
        for (int i = 0; i < length; i++) {
            bytes[i] = number.shiftRight(8 * (length - 1 - i)).intValue() & 255;
        }
        return bytes;
    }

    /** Register r is given a number before the calls. */
    Scene number(int r, BigInteger number) {
        bench.write(r, number);
        return becomes(r, number);
    }

    Scene number(int r, long number) {
        return number(r, BigInteger.valueOf(number));
    }

    /** Spot q is given a point before the calls, null being NONE. */
    Scene point(int q, Model.Pair point) {
        check.due(sentence + ": a point for the test", bench.writePoint(q, point), 1);
        return spotBecomes(q, point);
    }

    /** The bytes in hand before the calls are just these. */
    Scene hand(int... newBytes) {
        bench.desk.key(1);
        bench.writePoint(1, points[1]);
        bench.putAll(newBytes);
        return handBecomes(newBytes);
    }

    Scene answers(Object due, Call call) {
        check.due(sentence, call.on(bench.desk), due);
        return this;
    }

    Scene becomes(int r, BigInteger number) {
        numbers[r] = number;
        return this;
    }

    Scene becomes(int r, long number) {
        return becomes(r, BigInteger.valueOf(number));
    }

    Scene spotBecomes(int q, Model.Pair point) {
        points[q] = point;
        return this;
    }

    Scene handBecomes(int... newBytes) {
        bytes = newBytes.clone();
        return this;
    }

    /** Ends the test: everything is as it should be, and the bytes are seen by using them up. */
    void andNothingElse() {
        for (int r = 0; r < 8; r++) {
            check.due(sentence + ": register " + r, bench.read(r), numbers[r]);
        }
        for (int q = 0; q < 4; q++) {
            check.due(sentence + ": spot " + q, bench.readPoint(q), points[q]);
        }
        if (isStart(KEY)) {
            bench.putAll(Arrays.copyOfRange(KEY, bytes.length, KEY.length));
            check.due(sentence + ": a key begun with the bytes", bench.desk.key(1), 1);
            check.due(sentence + ": the key's point", bench.readPoint(1), Model.BASE);
        } else if (isStart(SIGNATURE)) {
            bench.putAll(Arrays.copyOfRange(SIGNATURE, bytes.length, SIGNATURE.length));
            check.due(sentence + ": a signature begun with the bytes", bench.desk.signature(0, 1), 1);
            check.due(sentence + ": the signature's r", bench.read(0), Bench.big(5));
            check.due(sentence + ": the signature's s", bench.read(1), Bench.big(6));
        } else {
            checkRoom();
        }
    }

    private boolean isStart(int[] whole) {
        return bytes.length <= whole.length && Arrays.equals(bytes, Arrays.copyOf(whole, bytes.length));
    }

    /** Of bytes that begin nothing good, only how many they are can be seen. */
    private void checkRoom() {
        for (int count = bytes.length; count < 100; count++) {
            check.due(sentence + ": room behind " + count + " bytes", bench.desk.put(0, 1), true);
        }
        check.due(sentence + ": room behind 100 bytes", bench.desk.put(0, 1), false);
    }
}
