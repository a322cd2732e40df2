import java.math.BigInteger;

/** The edges of promise 1, one test for each of its words. */
final class Edges01NewObjectTest {
    private final Check check = new Check();

    public static void main(String[] args) {
        Edges01NewObjectTest test = new Edges01NewObjectTest();
        test.allNumbersAre0();
        test.allSpotsAreNone();
        test.thereAreNoBytes();
        test.aLaterObjectIsAsNew();
        test.check.end();
    }

    private void allNumbersAre0() {
        Bench bench = new Bench();
        for (int r = 0; r < 8; r++) {
            check.due("All numbers 0: register " + r, bench.read(r), BigInteger.ZERO);
        }
    }

    private void allSpotsAreNone() {
        for (int q = 0; q < 4; q++) {
            Bench bench = new Bench();
            check.due("all spots NONE: place of " + q, bench.desk.place(q, 0, 1), 0);
            check.due("all spots NONE: sum with the base", bench.desk.spot(1, (q + 1) % 4, 0, 0), 1);
            check.due("all spots NONE: sum with the base", bench.desk.sum(q, q, (q + 1) % 4), true);
            check.due("all spots NONE: NONE and A make A", bench.readPoint(q), Model.BASE);
        }
    }

    /** No bytes are no key and no signature, leave room for 100, and stand before none that are put. */
    private void thereAreNoBytes() {
        check.due("no bytes: key", new CurveDesk().key(0), 0);
        check.due("no bytes: signature", new CurveDesk().signature(0, 1), 0);
        CurveDesk full = new CurveDesk();
        for (int i = 0; i < 25; i++) {
            check.due("no bytes: room for 4 * " + i, full.put(i, 4), true);
        }
        check.due("no bytes: no room behind 100", full.put(0, 1), false);
        Bench bench = new Bench();
        bench.putAll(Scene.keyOf(Model.BASE));
        check.due("no bytes before a key", bench.desk.key(0), 1);
        check.due("no bytes before a key", bench.readPoint(0), Model.BASE);
    }

    private void aLaterObjectIsAsNew() {
        Bench used = new Bench();
        for (int r = 0; r < 8; r++) {
            used.write(r, Bench.HIGHEST);
        }
        for (int q = 0; q < 4; q++) {
            used.desk.spot(1, q, 0, 0);
        }
        used.putAll(1, 2, 3);
        allNumbersAre0();
        allSpotsAreNone();
        thereAreNoBytes();
    }
}
