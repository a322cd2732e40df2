import java.math.BigInteger;
import java.util.Random;

/** Promise 9: a register times a spot, for any number, and what is refused. */
final class Promise09TimesTest {
    private final Check check = new Check();

    public static void main(String[] args) {
        Promise09TimesTest test = new Promise09TimesTest();
        test.checkKnown();
        test.checkSmall();
        test.checkEdges();
        test.checkRandom();
        test.checkSameSpot();
        test.checkNoSuch();
        test.check.end();
    }

    private void checkTimes(BigInteger k, Model.Pair point, Model.Pair due) {
        Bench bench = new Bench();
        bench.write(5, k);
        bench.writePoint(0, point);
        bench.writePoint(3, Model.BASE);
        check.due("times of " + k + " and " + point, bench.desk.times(3, 0, 5), true);
        check.due("its point", bench.readPoint(3), due);
        check.due("the register behind it", bench.read(5), k);
        check.due("spot a behind it", bench.readPoint(0), point);
    }

    /** A point that others have reckoned too. */
    private void checkKnown() {
        BigInteger k = new BigInteger("AA5E28D6A97A2479A65527F7290311A3624D4CC0FA1578598EE3C2613BF99522", 16);
        checkTimes(k, Model.BASE, new Model.Pair(
                new BigInteger("34F9460F0E4F08393D192B3C5133A6BA099AA0AD9FD54EBCCFACDFA239FF49C6", 16),
                new BigInteger("0B71EA9BD730FD8923F6D25A7A91E7DD7728A960686CB5A901BB419E0F2CA232", 16)));
    }

    private void checkSmall() {
        Model.Pair due = null;
        for (int k = 0; k < 40; k++) {
            checkTimes(BigInteger.valueOf(k), Model.BASE, due);
            due = Model.add(due, Model.BASE);
        }
    }

    private void checkEdges() {
        Model.Pair other = Model.times(new BigInteger("123456789123456789"), Model.BASE);
        for (int i = -3; i <= 3; i++) {
            BigInteger k = Model.N.add(BigInteger.valueOf(i));
            checkTimes(k, Model.BASE, Model.times(k.mod(Model.N), Model.BASE));
            checkTimes(k, other, Model.times(k.mod(Model.N), other));
        }
        checkTimes(Model.N, other, null);
        checkTimes(Model.N.add(BigInteger.ONE), other, other);
        checkTimes(Model.N.subtract(BigInteger.ONE), other, Model.minus(other));
        checkTimes(BigInteger.ZERO, other, null);
        BigInteger[] numbers = {BigInteger.ZERO, BigInteger.ONE, Model.N, Model.P, Bench.HIGHEST};
        for (BigInteger k : numbers) {
            checkTimes(k, null, null);
            checkTimes(k, other, Model.times(k.mod(Model.N), other));
        }
        for (int i = 0; i < 256; i += 5) {
            BigInteger k = BigInteger.ONE.shiftLeft(i);
            checkTimes(k, other, Model.times(k, other));
        }
    }

    private void checkRandom() {
        Random random = new Random(9);
        for (int i = 0; i < 60; i++) {
            Model.Pair point = Model.times(new BigInteger(256, random), Model.BASE);
            BigInteger k = new BigInteger(256, random);
            checkTimes(k, point, Model.times(k, point));
        }
    }

    private void checkSameSpot() {
        Bench bench = new Bench();
        bench.writePoint(2, Model.BASE);
        bench.write(0, BigInteger.TEN);
        check.due("times on like spots", bench.desk.times(2, 2, 0), true);
        check.due("times on like spots", bench.desk.times(2, 2, 0), true);
        check.due("100 times the base", bench.readPoint(2), Model.times(BigInteger.valueOf(100), Model.BASE));
    }

    private void checkNoSuch() {
        Bench bench = new Bench();
        bench.writePoint(0, Model.BASE);
        bench.write(0, BigInteger.TEN);
        String before = bench.state();
        for (int none : Bench.NO_SPOTS) {
            check.due("times with no q " + none, bench.desk.times(none, 0, 0), false);
            check.due("times with no a " + none, bench.desk.times(0, none, 0), false);
        }
        for (int none : Bench.NO_REGISTERS) {
            check.due("times with no r " + none, bench.desk.times(0, 0, none), false);
        }
        check.due("the state behind refused calls", bench.state(), before);
    }
}
