import java.math.BigInteger;

/** Promise 1: all numbers 0, all spots NONE, no bytes; and nothing shared between objects. */
final class Promise01NewObjectTest {
    public static void main(String[] args) {
        Check check = new Check();
        useUp(new Bench());
        Bench bench = new Bench();
        for (int r = 0; r < 8; r++) {
            check.due("register " + r, bench.read(r), BigInteger.ZERO);
        }
        for (int q = 0; q < 4; q++) {
            check.due("place of spot " + q, bench.desk.place(q, 0, 1), 0);
            check.due("fits with spot " + q, bench.desk.fits(q, 0, 1, 2), 0);
        }
        checkNoBytes(check);
        check.end();
    }

    /** If objects shared anything, a later one would not be new. */
    private static void useUp(Bench bench) {
        for (int r = 0; r < 8; r++) {
            bench.write(r, BigInteger.TEN);
        }
        for (int q = 0; q < 4; q++) {
            bench.desk.spot(1, q, 0, 0);
        }
        bench.putAll(1, 2, 3);
        bench.desk.times(3, 2, 1);
    }

    private static void checkNoBytes(Check check) {
        Bench full = new Bench();
        for (int i = 0; i < 100; i++) {
            check.due("put of byte " + i, full.desk.put(i, 1), true);
        }
        check.due("put of byte 100", full.desk.put(0, 1), false);
        Bench keyed = new Bench();
        keyed.putAll(2);
        keyed.putNumber(Model.BASE.x());
        check.due("a key as the first bytes", keyed.desk.key(0), 1);
        check.due("its point", keyed.readPoint(0), Model.BASE);
    }
}
