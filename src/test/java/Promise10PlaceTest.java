import java.math.BigInteger;

/** Promise 10: two registers become x and y of a spot; NONE changes nothing; what is refused. */
final class Promise10PlaceTest {
    public static void main(String[] args) {
        Check check = new Check();
        checkPoints(check);
        checkNone(check);
        checkRefused(check);
        check.end();
    }

    private static void checkPoints(Check check) {
        for (int q = 0; q < 4; q++) {
            Bench bench = new Bench();
            Model.Pair point = Model.times(BigInteger.valueOf(q + 5L), Model.BASE);
            bench.writePoint(q, point);
            for (int r = 0; r < 8; r++) {
                int s = (r + 1 + q) % 8;
                bench.write(r, BigInteger.ONE);
                bench.write(s, BigInteger.ONE);
                check.due("place(" + q + ", " + r + ", " + s + ")", bench.desk.place(q, r, s), 1);
                check.due("register " + r, bench.read(r), point.x());
                check.due("register " + s, bench.read(s), point.y());
            }
            check.due("place(" + q + ", 7, 0)", bench.desk.place(q, 7, 0), 1);
            bench.write(7, BigInteger.TWO);
            check.due("the spot when the register changes", bench.readPoint(q), point);
        }
    }

    private static void checkNone(Check check) {
        Bench bench = new Bench();
        bench.write(0, BigInteger.TEN);
        bench.write(1, BigInteger.TWO);
        bench.writePoint(0, Model.BASE);
        bench.desk.spot(0, 0, 0, 0);
        String before = bench.state();
        for (int q = 0; q < 4; q++) {
            check.due("place of NONE", bench.desk.place(q, 0, 1), 0);
        }
        check.due("the state behind it", bench.state(), before);
    }

    /** A wrong register is told before NONE is. */
    private static void checkRefused(Check check) {
        Bench bench = new Bench();
        bench.write(0, BigInteger.TEN);
        bench.writePoint(1, Model.BASE);
        String before = bench.state();
        for (int q = 0; q < 2; q++) {
            for (int r = 0; r < 8; r++) {
                check.due("place with r = s", bench.desk.place(q, r, r), -1);
            }
            for (int none : Bench.NO_REGISTERS) {
                check.due("place with no r " + none, bench.desk.place(q, none, 1), -1);
                check.due("place with no s " + none, bench.desk.place(q, 0, none), -1);
                check.due("place with neither " + none, bench.desk.place(q, none, none), -1);
            }
        }
        for (int none : Bench.NO_SPOTS) {
            check.due("place with no q " + none, bench.desk.place(none, 0, 1), -1);
        }
        check.due("the state behind refused calls", bench.state(), before);
    }
}
