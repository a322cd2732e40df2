import java.math.BigInteger;

/** Promise 7: a spot becomes NONE, the base or a point of two registers, and what is refused. */
final class Promise07SpotTest {
    private static final Model.Pair OTHER = Model.times(BigInteger.TEN, Model.BASE);

    private final Check check = new Check();

    public static void main(String[] args) {
        Promise07SpotTest test = new Promise07SpotTest();
        test.checkKinds();
        test.checkPoints();
        test.checkNoPoints();
        test.checkNoSuch();
        test.check.end();
    }

    /** r and s matter for kind 2 alone. */
    private void checkKinds() {
        int[] anyRegisters = {0, 7, -1, 8, Integer.MIN_VALUE, Integer.MAX_VALUE};
        for (int q = 0; q < 4; q++) {
            Bench bench = new Bench();
            for (int any : anyRegisters) {
                check.due("spot(1, " + q + ", " + any + ")", bench.desk.spot(1, q, any, any), 1);
                check.due("spot " + q, bench.readPoint(q), Model.BASE);
                check.due("spot(0, " + q + ", " + any + ")", bench.desk.spot(0, q, any, any), 1);
                check.due("spot " + q, bench.readPoint(q), null);
            }
            bench.write(0, OTHER.x());
            bench.write(7, OTHER.y());
            check.due("spot(2, " + q + ", 0, 7)", bench.desk.spot(2, q, 0, 7), 1);
            check.due("spot " + q, bench.readPoint(q), OTHER);
            bench.write(0, BigInteger.ONE);
            check.due("spot " + q + " when its register changes", bench.readPoint(q), OTHER);
            for (int p = 0; p < 4; p++) {
                check.due("spot " + p + " beside " + q, bench.readPoint(p), p == q ? OTHER : null);
            }
        }
    }

    private void checkPoints() {
        for (int k = 1; k < 40; k++) {
            Bench bench = new Bench();
            Model.Pair point = Model.times(BigInteger.valueOf(k), Model.BASE);
            check.due(k + " times the base", bench.writePoint(1, point), 1);
            check.due("spot 1", bench.readPoint(1), point);
            check.due(k + " times the base, less", bench.writePoint(1, Model.minus(point)), 1);
            check.due("spot 1", bench.readPoint(1), Model.minus(point));
        }
        BigInteger[] xs = {BigInteger.ONE, Model.N, Model.P.subtract(BigInteger.valueOf(3))};
        for (BigInteger x : xs) {
            Bench bench = new Bench();
            check.due("the point at " + x, bench.writePoint(2, Model.lift(x, true)), 1);
            check.due("spot 2", bench.readPoint(2), Model.lift(x, true));
        }
    }

    private void checkNoPoints() {
        BigInteger x = Model.BASE.x();
        BigInteger y = Model.BASE.y();
        checkRefused(BigInteger.ZERO, BigInteger.ZERO);
        checkRefused(x, y.add(BigInteger.ONE));
        checkRefused(x, y.xor(BigInteger.ONE.shiftLeft(255)));
        checkRefused(x.add(BigInteger.ONE), y);
        checkRefused(y, x);
        checkRefused(x, BigInteger.ZERO);
        checkRefused(Bench.HIGHEST, Bench.HIGHEST);
        checkHighTwins();
    }

    /** What is no number below P is no point, though P leaves one of it. */
    private void checkHighTwins() {
        BigInteger one = BigInteger.ONE;
        BigInteger y = Model.lift(one, false).y();
        checkRefused(Model.P.add(one), y);
        checkRefused(Model.P.add(one), Model.P.subtract(y));
        for (int small = 1, found = 0; small < 2000 && found < 3; small++) {
            BigInteger low = BigInteger.valueOf(small);
            BigInteger x = cubeRoot(low.multiply(low).subtract(BigInteger.valueOf(7)).mod(Model.P));
            if (x != null) {
                found++;
                Bench bench = new Bench();
                check.due("a point with y = " + low, bench.writePoint(0, new Model.Pair(x, low)), 1);
                checkRefused(x, Model.P.add(low));
            }
        }
    }

    /** P leaves 7 by 9, so a cube's root is its power (P + 2) / 9. */
    private static BigInteger cubeRoot(BigInteger cube) {
        BigInteger root = cube.modPow(Model.P.add(BigInteger.TWO).divide(BigInteger.valueOf(9)), Model.P);
        return root.pow(3).mod(Model.P).equals(cube) ? root : null;
    }

    private void checkRefused(BigInteger x, BigInteger y) {
        Bench bench = new Bench();
        bench.desk.spot(1, 1, 0, 0);
        bench.write(2, x);
        bench.write(3, y);
        String before = bench.state();
        check.due("spot(2) of " + x + " and " + y, bench.desk.spot(2, 1, 2, 3), 0);
        check.due("spot(2) of them on NONE", bench.desk.spot(2, 0, 2, 3), 0);
        check.due("the state behind it", bench.state(), before);
    }

    private void checkNoSuch() {
        Bench bench = new Bench();
        bench.write(0, OTHER.x());
        bench.write(1, OTHER.y());
        bench.desk.spot(1, 2, 0, 0);
        String before = bench.state();
        for (int kind = 0; kind < 3; kind++) {
            for (int none : Bench.NO_SPOTS) {
                check.due("spot(" + kind + ", " + none + ")", bench.desk.spot(kind, none, 0, 1), 0);
            }
        }
        int[] noKinds = {-1, 3, 4, Integer.MIN_VALUE, Integer.MAX_VALUE};
        for (int none : noKinds) {
            check.due("spot(" + none + ")", bench.desk.spot(none, 2, 0, 1), 0);
        }
        for (int none : Bench.NO_REGISTERS) {
            check.due("spot(2) without r " + none, bench.desk.spot(2, 2, none, 1), 0);
            check.due("spot(2) without s " + none, bench.desk.spot(2, 2, 0, none), 0);
        }
        check.due("the state behind refused calls", bench.state(), before);
    }
}
