import java.math.BigInteger;

/** The edges that 'Terms' names of points, sums and multiples, one test for each sentence. */
final class EdgesPointsTest {
    private static final BigInteger ONE = BigInteger.ONE;
    private static final BigInteger P = Model.P;
    private static final BigInteger N = Model.N;
    private static final Model.Pair BASE = Model.BASE;

    /** Two and three times the base, as they are told elsewhere. */
    private static final Model.Pair TWO_BASES = pair(
            "C6047F9441ED7D6D3045406E95C07CD85C778E4B8CEF3CA7ABAC09B95C709EE5",
            "1AE168FEA63DC339A3C58419466CEAEEF7F632653266D0E1236431A950CFE52A");
    private static final Model.Pair THREE_BASES = pair(
            "F9308A019258C31049344F85F89D5229B531C845836F99B08601F113BCE036F9",
            "388F7B0F632DE8140FE337E62A37F3566500A99934C2231B6CB9FD7584B8E672");

    private final Check check = new Check();

    public static void main(String[] args) {
        EdgesPointsTest test = new EdgesPointsTest();
        test.pointsAreNumbersBelowP();
        test.pointsLieOnTheCurve();
        test.spotsAreNoneAtFirst();
        test.noneAndAMakeA();
        test.oppositesMakeNone();
        test.twoLikeOnes();
        test.otherwise();
        test.sameYIsNotLike();
        test.timesIsTheSumOfLikeOnes();
        test.zeroTimesIsNone();
        test.nTimesIsNone();
        test.moreThanNTimes();
        test.theBase();
        test.check.end();
    }

    private static Model.Pair pair(String x, String y) {
        return new Model.Pair(new BigInteger(x, 16), new BigInteger(y, 16));
    }

    /** The base and others far from it, with low and high x and y. */
    private static Model.Pair[] somePoints() {
        return new Model.Pair[] {BASE, Model.minus(BASE), TWO_BASES, Model.lift(ONE, false), Model.lift(ONE, true),
            Model.lift(P.subtract(BigInteger.valueOf(3)), false), Model.times(N.shiftRight(1), BASE)};
    }

    private Scene scene(String sentence) {
        return new Scene(check, sentence);
    }

    private void isNoPoint(String sentence, BigInteger x, BigInteger y) {
        scene(sentence).number(6, x).number(7, y)
                .answers(0, desk -> desk.spot(2, 0, 6, 7)).answers(0, desk -> desk.spot(2, 1, 6, 7)).andNothingElse();
    }

    private void isPoint(String sentence, BigInteger x, BigInteger y) {
        scene(sentence).number(6, x).number(7, y)
                .answers(1, desk -> desk.spot(2, 1, 6, 7)).spotBecomes(1, new Model.Pair(x, y)).andNothingElse();
    }

    /** P leaves 7 by 9, so a cube's root is its power (P + 2) / 9. */
    private static BigInteger xOf(BigInteger y) {
        BigInteger cube = y.multiply(y).subtract(BigInteger.valueOf(7)).mod(P);
        BigInteger root = cube.modPow(P.add(BigInteger.TWO).divide(BigInteger.valueOf(9)), P);
        return root.pow(3).mod(P).equals(cube) ? root : null;
    }

    /** Low numbers have a twin below 2 ^ 256 that P leaves alike. */
    private void pointsAreNumbersBelowP() {
        String sentence = "POINTS are pairs x, y of numbers below P";
        BigInteger y = Model.lift(ONE, false).y();
        isPoint(sentence, ONE, y);
        isNoPoint(sentence, ONE.add(P), y);
        BigInteger lowY = ONE;
        while (xOf(lowY) == null) {
            lowY = lowY.add(ONE);
        }
        isPoint(sentence, xOf(lowY), lowY);
        isNoPoint(sentence, xOf(lowY), lowY.add(P));
        isPoint(sentence, xOf(lowY), P.subtract(lowY));
        isNoPoint(sentence, P, y);
        isNoPoint(sentence, ONE, P);
        isNoPoint(sentence, Bench.HIGHEST, Bench.HIGHEST);
        BigInteger highX = P.subtract(BigInteger.valueOf(3));
        isPoint(sentence, highX, Model.lift(highX, true).y());
    }

    private void pointsLieOnTheCurve() {
        String sentence = "y * y = x * x * x + 7 modulo P";
        BigInteger x = BASE.x();
        BigInteger y = BASE.y();
        isPoint(sentence, x, y);
        isPoint(sentence, x, P.subtract(y));
        isNoPoint(sentence, x, y.add(ONE));
        isNoPoint(sentence, x, y.subtract(ONE));
        isNoPoint(sentence, x.add(ONE), y);
        isNoPoint(sentence, x, y.xor(ONE.shiftLeft(255)));
        isNoPoint(sentence, x.xor(ONE.shiftLeft(255)), y);
        isNoPoint(sentence, y, x);
        isNoPoint(sentence, BigInteger.ZERO, BigInteger.ZERO);
        isNoPoint(sentence, ONE, ONE);
        isNoPoint(sentence, x, BigInteger.ZERO);
        isNoPoint(sentence, BigInteger.ZERO, y);
    }

    private void spotsAreNoneAtFirst() {
        CurveDesk desk = new CurveDesk();
        for (int q = 0; q < 4; q++) {
            check.due("SPOTS have a point each, at first NONE: " + q, desk.place(q, 0, 1), 0);
        }
    }

    private void sums(String sentence, Model.Pair a, Model.Pair b, Model.Pair due) {
        scene(sentence).point(0, a).point(2, b).answers(true, desk -> desk.sum(3, 0, 2)).spotBecomes(3, due)
                .andNothingElse();
        scene(sentence).point(0, a).point(2, b).answers(true, desk -> desk.sum(0, 0, 2)).spotBecomes(0, due)
                .andNothingElse();
        scene(sentence).point(0, a).point(2, b).answers(true, desk -> desk.sum(2, 0, 2)).spotBecomes(2, due)
                .andNothingElse();
    }

    private void noneAndAMakeA() {
        String sentence = "NONE and A make A";
        for (Model.Pair point : somePoints()) {
            sums(sentence, null, point, point);
            sums(sentence, point, null, point);
        }
        sums(sentence, null, null, null);
    }

    private void oppositesMakeNone() {
        String sentence = "(x, y) and (x, P - y) make NONE";
        for (Model.Pair point : somePoints()) {
            sums(sentence, point, Model.minus(point), null);
            sums(sentence, Model.minus(point), point, null);
        }
        // A NONE that was made so is like any other.
        scene(sentence).answers(true, desk -> desk.sum(0, 0, 3)).answers(0, desk -> desk.place(0, 4, 5))
                .answers(true, desk -> desk.sum(3, 0, 2))
                .spotBecomes(0, null).spotBecomes(3, TWO_BASES).andNothingElse();
    }

    private void twoLikeOnes() {
        String sentence = "for two like ones s = 3 * x * x / (2 * y)";
        sums(sentence, BASE, BASE, TWO_BASES);
        sums(sentence, Model.minus(BASE), Model.minus(BASE), Model.minus(TWO_BASES));
        for (Model.Pair point : somePoints()) {
            sums(sentence, point, point, Model.add(point, point));
        }
        scene(sentence).answers(true, desk -> desk.sum(0, 0, 0)).spotBecomes(0, TWO_BASES).andNothingElse();
        scene(sentence).answers(true, desk -> desk.sum(1, 0, 0)).spotBecomes(1, TWO_BASES).andNothingElse();
    }

    private void otherwise() {
        String sentence = "otherwise, with s = (y2 - y1) / (x2 - x1)";
        sums(sentence, BASE, TWO_BASES, THREE_BASES);
        sums(sentence, TWO_BASES, BASE, THREE_BASES);
        sums(sentence, THREE_BASES, Model.minus(TWO_BASES), BASE);
        sums(sentence, Model.minus(BASE), THREE_BASES, TWO_BASES);
    }

    /** Three points lie on each level line, and their sum is NONE. */
    private void sameYIsNotLike() {
        BigInteger third = BigInteger.TWO.modPow(P.subtract(ONE).divide(BigInteger.valueOf(3)), P);
        check.due("a third root of 1", third.equals(ONE), false);
        Model.Pair second = new Model.Pair(third.multiply(BASE.x()).mod(P), BASE.y());
        Model.Pair last = new Model.Pair(third.multiply(second.x()).mod(P), BASE.y());
        sums("otherwise, with s = (y2 - y1) / (x2 - x1), here 0", BASE, second, Model.minus(last));
    }

    private void multiplies(String sentence, BigInteger k, Model.Pair a, Model.Pair due) {
        scene(sentence + ": " + k).number(5, k).point(2, a)
                .answers(true, desk -> desk.times(1, 2, 5)).spotBecomes(1, due).andNothingElse();
        scene(sentence + ": " + k).number(5, k).point(2, a)
                .answers(true, desk -> desk.times(2, 2, 5)).spotBecomes(2, due).andNothingElse();
    }

    private void timesIsTheSumOfLikeOnes() {
        String sentence = "k TIMES A is the sum of k like ones";
        multiplies(sentence, ONE, BASE, BASE);
        multiplies(sentence, BigInteger.TWO, BASE, TWO_BASES);
        multiplies(sentence, BigInteger.valueOf(3), BASE, THREE_BASES);
        for (Model.Pair point : somePoints()) {
            Model.Pair added = null;
            for (int k = 0; k < 9; k++) {
                multiplies(sentence, BigInteger.valueOf(k), point, added);
                added = Model.add(added, point);
            }
        }
    }

    private void zeroTimesIsNone() {
        for (Model.Pair point : somePoints()) {
            multiplies("0 times NONE", BigInteger.ZERO, point, null);
        }
        BigInteger[] numbers = {BigInteger.ZERO, ONE, N, Bench.HIGHEST};
        for (BigInteger k : numbers) {
            multiplies("k TIMES A, A being NONE", k, null, null);
        }
    }

    private void nTimesIsNone() {
        for (Model.Pair point : somePoints()) {
            multiplies("N times any point is NONE", N, point, null);
            multiplies("N times any point is NONE, so once less is its opposite", N.subtract(ONE), point,
                    Model.minus(point));
            multiplies("N times any point is NONE, so once more is itself", N.add(ONE), point, point);
        }
    }

    /** 2 ^ 256 - 1 is N and N's gap less 1. */
    private void moreThanNTimes() {
        String sentence = "k TIMES A for k above N";
        for (Model.Pair point : somePoints()) {
            multiplies(sentence, N.add(BigInteger.TWO), point, Model.add(point, point));
            multiplies(sentence, P, point, Model.times(P.subtract(N), point));
            multiplies(sentence, Bench.HIGHEST, point, Model.times(Bench.HIGHEST.subtract(N), point));
            multiplies(sentence, ONE.shiftLeft(255), point, Model.times(ONE.shiftLeft(255), point));
        }
    }

    private void theBase() {
        BigInteger x = new BigInteger("55066263022277343669578718895168534326250603453777594175500187360389116729240");
        BigInteger y = new BigInteger("32670510020758816978083085130507043184471273380659243275938904335757337482424");
        scene("THE BASE").answers(1, desk -> desk.spot(1, 1, 0, 0)).answers(1, desk -> desk.place(1, 2, 6))
                .spotBecomes(1, BASE).becomes(2, x).becomes(6, y).andNothingElse();
    }
}
