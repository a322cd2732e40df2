import java.math.BigInteger;
import java.util.Random;

/** Promise 8: sums of two spots, with NONE, like and opposite points, and what is refused. */
final class Promise08SumTest {
    private final Check check = new Check();

    public static void main(String[] args) {
        Promise08SumTest test = new Promise08SumTest();
        test.checkPairs();
        test.checkSameY();
        test.checkSameSpots();
        test.checkNoSuch();
        test.check.end();
    }

    private void checkSum(Model.Pair a, Model.Pair b) {
        Bench bench = new Bench();
        bench.writePoint(0, a);
        bench.writePoint(1, b);
        bench.writePoint(2, Model.BASE);
        check.due("sum of " + a + " and " + b, bench.desk.sum(2, 0, 1), true);
        check.due("its point", bench.readPoint(2), Model.add(a, b));
        check.due("spot a behind it", bench.readPoint(0), a);
        check.due("spot b behind it", bench.readPoint(1), b);
    }

    private void checkPairs() {
        Random random = new Random(8);
        Model.Pair[] points = new Model.Pair[12];
        for (int i = 1; i < points.length; i++) {
            points[i] = Model.times(i < 4 ? BigInteger.valueOf(i) : new BigInteger(256, random), Model.BASE);
        }
        points[10] = Model.minus(points[1]);
        points[11] = Model.minus(points[9]);
        for (Model.Pair a : points) {
            for (Model.Pair b : points) {
                checkSum(a, b);
            }
        }
    }

    /** Points with the same y need not be like ones: three lie on each level line. */
    private void checkSameY() {
        BigInteger beta = thirdRootOfOne();
        Model.Pair other = new Model.Pair(beta.multiply(Model.BASE.x()).mod(Model.P), Model.BASE.y());
        check.due("the same y is a point", Model.isPoint(other.x(), other.y()), true);
        checkSum(Model.BASE, other);
        checkSum(other, Model.minus(Model.BASE));
        check.due("two of them make", Model.add(Model.BASE, other).y(), Model.P.subtract(Model.BASE.y()));
    }

    private static BigInteger thirdRootOfOne() {
        BigInteger power = Model.P.subtract(BigInteger.ONE).divide(BigInteger.valueOf(3));
        for (int i = 2; i < 50; i++) {
            BigInteger root = BigInteger.valueOf(i).modPow(power, Model.P);
            if (!root.equals(BigInteger.ONE)) {
                return root;
            }
        }
        throw new IllegalStateException("no root");
    }

    /** q may be a, b or both. */
    private void checkSameSpots() {
        Model.Pair seven = Model.times(BigInteger.valueOf(7), Model.BASE);
        int[][] calls = {{0, 0, 1}, {1, 0, 1}, {0, 0, 0}, {1, 1, 1}, {2, 2, 2}, {0, 2, 0}, {2, 2, 0},
            {2, 0, 2}, {3, 1, 1}};
        for (int[] call : calls) {
            Model.Pair[] before = {Model.BASE, seven, null, null};
            Bench bench = new Bench();
            for (int q = 0; q < 4; q++) {
                bench.writePoint(q, before[q]);
            }
            check.due("sum on like spots", bench.desk.sum(call[0], call[1], call[2]), true);
            before[call[0]] = Model.add(before[call[1]], before[call[2]]);
            for (int q = 0; q < 4; q++) {
                check.due("spot " + q, bench.readPoint(q), before[q]);
            }
        }
    }

    private void checkNoSuch() {
        Bench bench = new Bench();
        bench.writePoint(0, Model.BASE);
        bench.writePoint(1, Model.BASE);
        String before = bench.state();
        for (int none : Bench.NO_SPOTS) {
            check.due("sum with no q " + none, bench.desk.sum(none, 0, 1), false);
            check.due("sum with no a " + none, bench.desk.sum(0, none, 1), false);
            check.due("sum with no b " + none, bench.desk.sum(0, 1, none), false);
        }
        check.due("the state behind refused calls", bench.state(), before);
    }
}
