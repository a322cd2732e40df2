import java.math.BigInteger;
import java.util.Arrays;

/** Promise 13: signatures as bytes, every way in which bytes are none, and what is refused. */
final class Promise13SignatureTest {
    private static final BigInteger MARK = BigInteger.valueOf(99);

    private final Check check = new Check();

    public static void main(String[] args) {
        Promise13SignatureTest test = new Promise13SignatureTest();
        test.checkGood();
        test.checkNumbersAsWritten();
        test.checkFrame();
        test.checkEveryByte();
        test.checkEveryLength();
        test.checkRefused();
        test.check.end();
    }

    private static int[] bytesOf(BigInteger number) {
        byte[] bytes = number.toByteArray();
        int[] values = new int[bytes.length];
        for (int i = 0; i < bytes.length; i++) {
            values[i] = bytes[i] & 255;
        }
        return values;
    }

    /** The frame round two rows of bytes, whatever they are. */
    private static int[] framed(int[] r, int[] s) {
        int[] all = new int[6 + r.length + s.length];
        all[0] = 48;
        all[1] = all.length - 2;
        all[2] = 2;
        all[3] = r.length;
        System.arraycopy(r, 0, all, 4, r.length);
        all[4 + r.length] = 2;
        all[5 + r.length] = s.length;
        System.arraycopy(s, 0, all, 6 + r.length, s.length);
        return all;
    }

    /** r and s are the numbers due, or null where the bytes are no signature. */
    private void checkBytes(BigInteger r, BigInteger s, int... bytes) {
        Bench bench = new Bench();
        bench.write(3, MARK);
        bench.write(6, MARK);
        bench.putAll(bytes);
        String what = "signature " + Arrays.toString(bytes);
        check.due(what, bench.desk.signature(3, 6), r == null ? 0 : 1);
        check.due("r of " + what, bench.read(3), r == null ? MARK : r);
        check.due("s of " + what, bench.read(6), r == null ? MARK : s);
        bench.putAll(2);
        bench.putNumber(Model.BASE.x());
        check.due("the bytes are taken: a key behind " + what, bench.desk.key(0), 1);
    }

    private void checkNone(int... bytes) {
        checkBytes(null, null, bytes);
    }

    private void checkGood() {
        BigInteger[] numbers = {BigInteger.ZERO, BigInteger.ONE, Bench.big(127), Bench.big(128), Bench.big(255),
            Bench.big(256), Bench.big(32767), Bench.big(32768), BigInteger.ONE.shiftLeft(247),
            BigInteger.ONE.shiftLeft(248), BigInteger.ONE.shiftLeft(255).subtract(BigInteger.ONE),
            BigInteger.ONE.shiftLeft(255), Model.N, Model.P, Bench.HIGHEST, Model.BASE.x(), Model.BASE.y()};
        for (BigInteger r : numbers) {
            for (BigInteger s : numbers) {
                checkBytes(r, s, framed(bytesOf(r), bytesOf(s)));
            }
        }
        for (int i = 0; i < 256; i++) {
            BigInteger r = BigInteger.ONE.shiftLeft(i);
            checkBytes(r, BigInteger.TEN, framed(bytesOf(r), new int[] {10}));
            checkBytes(BigInteger.TEN, r, framed(new int[] {10}, bytesOf(r)));
        }
    }

    /** Numbers that are written too long, with a sign, or too high. */
    private void checkNumbersAsWritten() {
        int[] high = new int[33];
        high[0] = 1;
        int[] zeros = new int[33];
        int[] tooLong = new int[34];
        tooLong[1] = 128;
        int[] negative = new int[32];
        Arrays.fill(negative, 255);
        int[] longNegative = new int[33];
        longNegative[0] = 128;
        int[][] wrong = {{}, {128}, {255}, {128, 0}, {0, 0}, {0, 1}, {0, 127}, {0, 127, 255}, {0, 0, 128},
            high, zeros, tooLong, negative, longNegative};
        int[] good = {5};
        for (int[] bytes : wrong) {
            checkNone(framed(bytes, good));
            checkNone(framed(good, bytes));
            checkNone(framed(bytes, bytes));
        }
        checkBytes(Bench.big(128), Bench.big(5), framed(new int[] {0, 128}, good));
        checkBytes(Bench.big(127), Bench.big(5), framed(new int[] {127}, good));
        checkBytes(Bench.big(0), Bench.big(5), framed(new int[] {0}, good));
        checkBytes(Bench.big(5), Bench.big(0), framed(good, new int[] {0}));
    }

    private void checkFrame() {
        checkBytes(Bench.big(5), Bench.big(6), 48, 6, 2, 1, 5, 2, 1, 6);
        checkNone();
        checkNone(48);
        checkNone(48, 0);
        checkNone(48, 1, 2);
        checkNone(48, 3, 2, 1, 5);
        checkNone(48, 4, 2, 1, 5, 2);
        checkNone(48, 5, 2, 1, 5, 2, 1);
        checkNone(48, 6, 2, 1, 5, 2, 1);
        checkNone(48, 6, 2, 1, 5, 2, 1, 6, 0);
        checkNone(48, 7, 2, 1, 5, 2, 1, 6, 0);
        checkNone(48, 7, 2, 1, 5, 2, 1, 6);
        checkNone(48, 5, 2, 1, 5, 2, 1, 6);
        checkNone(48, 129, 6, 2, 1, 5, 2, 1, 6);
        checkNone(48, 6, 2, 0, 5, 2, 1, 6);
        checkNone(48, 6, 2, 4, 5, 2, 1, 6);
        checkNone(48, 6, 2, 1, 5, 2, 2, 6);
        checkNone(48, 6, 2, 1, 5, 2, 0, 6);
        checkNone(48, 9, 2, 1, 5, 2, 1, 6, 2, 1, 7);
    }

    /** In the shortest good one each byte but the two numbers' own stands fast. */
    private void checkEveryByte() {
        int[] good = {48, 6, 2, 1, 5, 2, 1, 6};
        for (int at = 0; at < good.length; at++) {
            for (int value = 0; value < 256; value++) {
                int[] bytes = good.clone();
                bytes[at] = value;
                boolean same = value == good[at] || (at == 4 || at == 7) && value < 128;
                if (same) {
                    checkBytes(Bench.big(bytes[4]), Bench.big(bytes[7]), bytes);
                } else {
                    checkNone(bytes);
                }
            }
        }
    }

    /** Up to the 100 bytes that fit into the hand, and with what is taken lying behind. */
    private void checkEveryLength() {
        int[] whole = framed(bytesOf(Bench.HIGHEST), bytesOf(Bench.HIGHEST));
        for (int length = 0; length <= 100; length++) {
            int[] bytes = Arrays.copyOf(whole, length);
            if (length != whole.length) {
                checkNone(bytes);
            }
            Bench bench = new Bench();
            bench.putAll(whole);
            check.due("the highest", bench.desk.signature(0, 1), 1);
            bench.putAll(bytes);
            check.due("its first " + length + " bytes", bench.desk.signature(2, 3), length == whole.length ? 1 : 0);
        }
    }

    private void checkRefused() {
        Bench bench = new Bench();
        bench.putAll(48, 6, 2, 1, 5, 2, 1, 6);
        String before = bench.state();
        for (int r = 0; r < 8; r++) {
            check.due("signature with r = s", bench.desk.signature(r, r), -1);
        }
        for (int none : Bench.NO_REGISTERS) {
            check.due("signature with no r " + none, bench.desk.signature(none, 1), -1);
            check.due("signature with no s " + none, bench.desk.signature(0, none), -1);
            check.due("signature with neither " + none, bench.desk.signature(none, none), -1);
        }
        check.due("the state behind refused calls", bench.state(), before);
        check.due("the bytes have stayed", bench.desk.signature(7, 0), 1);
        check.due("r", bench.read(7), Bench.big(5));
        check.due("s", bench.read(0), Bench.big(6));
        check.due("they are taken then", bench.desk.signature(1, 2), 0);
        check.due("r of nothing", bench.read(1), BigInteger.ZERO);
    }
}
