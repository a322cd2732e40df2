import java.math.BigInteger;

/** Promise 11: which bytes come into hand, in which order, and how many; what is refused. */
final class Promise11PutTest {
    private final Check check = new Check();

    public static void main(String[] args) {
        Promise11PutTest test = new Promise11PutTest();
        test.checkOrder();
        test.checkLengths();
        test.checkMost();
        test.checkTakenMakesRoom();
        test.check.end();
    }

    /** The base's key, put so many bytes a call with other bytes above them, is the base's key. */
    private void checkOrder() {
        byte[] key = new byte[33];
        key[0] = 2;
        byte[] x = Model.BASE.x().toByteArray();
        System.arraycopy(x, x.length - 32, key, 1, 32);
        for (int n = 1; n <= 8; n++) {
            Bench bench = new Bench();
            for (int from = 0; from < 33; from += n) {
                int length = Math.min(n, 33 - from);
                long above = length == 8 ? 0 : -1L << 8 * length;
                long v = new BigInteger(1, java.util.Arrays.copyOfRange(key, from, from + length)).longValue();
                check.due("put of " + length, bench.desk.put(v | above, length), true);
            }
            check.due("the key, " + n + " bytes a call", bench.desk.key(0), 1);
            check.due("its point", bench.readPoint(0), Model.BASE);
        }
    }

    /** A refused put leaves the bytes as they were. */
    private void checkLengths() {
        int[] wrong = {0, -1, 9, 10, 100, Integer.MIN_VALUE, Integer.MAX_VALUE, -8};
        Bench bench = new Bench();
        bench.putAll(48, 6, 2, 1, 5);
        for (int n : wrong) {
            check.due("put of " + n, bench.desk.put(0x0102030405060708L, n), false);
        }
        bench.putAll(2, 1, 6);
        check.due("the bytes behind refused ones", bench.desk.signature(0, 1), 1);
        check.due("r", bench.read(0), Bench.big(5));
        check.due("s", bench.read(1), Bench.big(6));
    }

    private void checkMost() {
        for (int n = 1; n <= 8; n++) {
            Bench bench = new Bench();
            int most = 100 / n;
            for (int i = 0; i < most; i++) {
                check.due("put " + i + " of " + n, bench.desk.put(i, n), true);
            }
            int room = 100 - most * n;
            for (int length = 8; length > room; length--) {
                check.due("put of " + length + " with room for " + room, bench.desk.put(0, length), false);
            }
            check.due("put of the last " + room, bench.desk.put(0, room), room != 0);
            check.due("put behind 100", bench.desk.put(0, 1), false);
        }
    }

    private void checkTakenMakesRoom() {
        Bench bench = new Bench();
        for (int round = 0; round < 4; round++) {
            for (int i = 0; i < 25; i++) {
                check.due("put in round " + round, bench.desk.put(-1, 4), true);
            }
            check.due("put behind 100", bench.desk.put(0, 1), false);
            check.due("100 bytes are nothing", round % 2 == 0 ? bench.desk.key(0) : bench.desk.signature(0, 1), 0);
        }
    }
}
