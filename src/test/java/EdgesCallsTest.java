import java.math.BigInteger;

/** "An object is used for at most 512 calls": the last of them is answered as the first. */
final class EdgesCallsTest {
    private static final int MOST_CALLS = 512;

    private final Check check = new Check();

    public static void main(String[] args) {
        EdgesCallsTest test = new EdgesCallsTest();
        test.fitsEachTime();
        test.timesEachTime();
        test.bytesEachTime();
        test.check.end();
    }

    /** With z = 0 and r = s the key itself is met. */
    private void fitsEachTime() {
        CurveDesk desk = new CurveDesk();
        BigInteger x = Model.BASE.x();
        desk.spot(1, 0, 0, 0);
        desk.set(0, Bench.longOf(x, 0), Bench.longOf(x, 1), Bench.longOf(x, 2), Bench.longOf(x, 3));
        for (int call = 3; call <= MOST_CALLS; call++) {
            boolean whole = call % 2 == 0;
            check.due("call " + call + ": fits", desk.fits(0, 0, 0, whole ? 1 : 0), whole ? 1 : 0);
        }
    }

    /** Each time the opposite; the last nine calls read what it has come to. */
    private void timesEachTime() {
        Bench bench = new Bench();
        bench.write(0, Model.N.subtract(BigInteger.ONE));
        bench.desk.spot(1, 3, 0, 0);
        for (int call = 3; call <= MOST_CALLS - 9; call++) {
            check.due("call " + call + ": times", bench.desk.times(3, 3, 0), true);
        }
        check.due("call 504: place", bench.desk.place(3, 1, 2), 1);
        check.due("the last calls: x", bench.read(1), Model.BASE.x());
        check.due("the last calls: y", bench.read(2), Model.P.subtract(Model.BASE.y()));
    }

    /** Five puts and a key that takes them, again and again, the last being call 510. */
    private void bytesEachTime() {
        CurveDesk desk = new CurveDesk();
        BigInteger x = Model.BASE.x();
        for (int round = 0; round < MOST_CALLS / 6; round++) {
            check.due("round " + round + ": put", desk.put(2 + round % 2, 1), true);
            for (int k = 0; k < 4; k++) {
                check.due("round " + round + ": put", desk.put(Bench.longOf(x, k), 8), true);
            }
            check.due("round " + round + ": key", desk.key(round % 4), 1);
        }
        check.due("call 511: fits", desk.fits(0, 0, 0, 0), 0);
        check.due("call 512: place", desk.place(3, 0, 1), 1);
    }
}
