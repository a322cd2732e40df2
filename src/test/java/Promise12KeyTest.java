import java.math.BigInteger;
import java.util.Random;

/** Promise 12: keys of 33 and of 65 bytes, what is no key, and what is refused. */
final class Promise12KeyTest {
    private final Check check = new Check();

    public static void main(String[] args) {
        Promise12KeyTest test = new Promise12KeyTest();
        test.checkGood();
        test.checkBadX();
        test.checkBadWhole();
        test.checkBadLengths();
        test.checkBadMarks();
        test.checkRefused();
        test.check.end();
    }

    private void checkKey(int q, Model.Pair due, int mark, BigInteger... numbers) {
        Bench bench = new Bench();
        bench.writePoint(1, Model.BASE);
        bench.putAll(mark);
        for (BigInteger number : numbers) {
            bench.putNumber(number);
        }
        Model.Pair before = bench.readPoint(q);
        check.due("key " + mark + " " + java.util.List.of(numbers), bench.desk.key(q), due == null ? 0 : 1);
        check.due("its point", bench.readPoint(q), due == null ? before : due);
        checkNoBytes(bench);
    }

    /** A signature put next is one only if nothing stands before it. */
    private void checkNoBytes(Bench bench) {
        bench.putAll(48, 6, 2, 1, 5, 2, 1, 6);
        check.due("signature behind the key", bench.desk.signature(0, 1), 1);
    }

    private void checkGood() {
        Random random = new Random(12);
        for (int i = 0; i < 60; i++) {
            BigInteger k = i < 10 ? BigInteger.valueOf(i + 1) : new BigInteger(256, random);
            Model.Pair point = Model.times(k, Model.BASE);
            boolean odd = point.y().testBit(0);
            checkKey(i % 4, point, odd ? 3 : 2, point.x());
            checkKey(i % 4, Model.minus(point), odd ? 2 : 3, point.x());
            checkKey(i % 4, point, 4, point.x(), point.y());
            checkKey(i % 4, Model.minus(point), 4, point.x(), Model.minus(point).y());
        }
        BigInteger[] xs = {BigInteger.ONE, Model.N, Model.P.subtract(BigInteger.valueOf(3))};
        for (BigInteger x : xs) {
            checkKey(0, Model.lift(x, false), 2, x);
            checkKey(1, Model.lift(x, true), 3, x);
        }
    }

    private void checkBadX() {
        BigInteger[] xs = {BigInteger.ZERO, BigInteger.valueOf(5), Model.P.subtract(BigInteger.ONE), Model.P,
            Model.P.add(BigInteger.ONE), Model.P.add(BigInteger.TWO), Bench.HIGHEST};
        for (BigInteger x : xs) {
            for (int q = 0; q < 2; q++) {
                checkKey(q, null, 2, x);
                checkKey(q, null, 3, x);
            }
        }
    }

    private void checkBadWhole() {
        BigInteger x = Model.BASE.x();
        BigInteger y = Model.BASE.y();
        BigInteger one = BigInteger.ONE;
        BigInteger[][] pairs = {{x, y.add(one)}, {y, x}, {BigInteger.ZERO, BigInteger.ZERO}, {x, x},
            {Model.P.add(one), Model.lift(one, false).y()}, {Bench.HIGHEST, Bench.HIGHEST}, {x, Bench.HIGHEST}};
        for (BigInteger[] pair : pairs) {
            for (int q = 0; q < 2; q++) {
                checkKey(q, null, 4, pair);
            }
        }
    }

    private void checkBadLengths() {
        for (int length = 0; length <= 100; length++) {
            if (length == 33 || length == 65) {
                continue;
            }
            for (int mark = 2; mark <= 4; mark++) {
                Bench bench = new Bench();
                bench.putAll(mark);
                bench.putNumber(Model.BASE.x());
                bench.putNumber(Model.BASE.y());
                // What was taken lies behind the shorter bytes that come now, and must not count.
                bench.desk.key(0);
                bench.desk.spot(0, 0, 0, 0);
                putBase(bench, mark, length);
                check.due("a key of " + length + " bytes with " + mark, bench.desk.key(0), 0);
                check.due("spot 0", bench.readPoint(0), null);
                checkNoBytes(bench);
            }
        }
    }

    /** So many bytes of mark, the base's x and y, and zeros. */
    private static void putBase(Bench bench, int mark, int length) {
        BigInteger all = BigInteger.valueOf(mark).shiftLeft(256).or(Model.BASE.x()).shiftLeft(256)
                .or(Model.BASE.y()).shiftLeft(8 * 35);
        for (int i = 0; i < length; i++) {
            bench.desk.put(all.shiftRight(8 * (99 - i)).longValue(), 1);
        }
    }

    private void checkBadMarks() {
        for (int mark = 0; mark < 256; mark++) {
            if (mark != 2 && mark != 3) {
                checkKey(0, null, mark, Model.BASE.x());
            }
            if (mark != 4) {
                checkKey(0, null, mark, Model.BASE.x(), Model.BASE.y());
            }
        }
    }

    private void checkRefused() {
        Bench bench = new Bench();
        bench.putAll(3);
        bench.putNumber(Model.BASE.x());
        String before = bench.state();
        for (int none : Bench.NO_SPOTS) {
            check.due("key(" + none + ")", bench.desk.key(none), -1);
        }
        check.due("the state behind refused calls", bench.state(), before);
        check.due("the bytes have stayed", bench.desk.key(3), 1);
        check.due("their point", bench.readPoint(3), Model.minus(Model.BASE));
        check.due("they are taken then", bench.desk.key(2), 0);
        check.due("spot 2", bench.readPoint(2), null);
    }
}
