import java.math.BigInteger;

/** The edges of promise 4, one test for each of its sentences. */
final class Edges04ReduceTest {
    private static final BigInteger ONE = BigInteger.ONE;
    private static final int[] NO_MODULI = {-1, 2, 3, Integer.MIN_VALUE, Integer.MAX_VALUE};

    private final Check check = new Check();

    public static void main(String[] args) {
        Edges04ReduceTest test = new Edges04ReduceTest();
        test.whatIsLeft();
        test.onlyRegisterR();
        test.falseForNoSuchRegister();
        test.falseForNoSuchModulus();
        test.check.end();
    }

    private void leaves(int m, BigInteger number, BigInteger left) {
        new Scene(check, "becomes what is left of itself by modulus " + m + ": " + number).number(2, number)
                .answers(true, desk -> desk.reduce(2, m)).becomes(2, left)
                .answers(true, desk -> desk.reduce(2, m)).andNothingElse();
    }

    private void whatIsLeft() {
        BigInteger[] moduli = {Model.P, Model.N};
        for (int m = 0; m < 2; m++) {
            leaves(m, BigInteger.ZERO, BigInteger.ZERO);
            leaves(m, ONE, ONE);
            leaves(m, moduli[m].subtract(ONE), moduli[m].subtract(ONE));
            leaves(m, moduli[m], BigInteger.ZERO);
            leaves(m, moduli[m].add(ONE), ONE);
            leaves(m, Bench.HIGHEST, Bench.HIGHEST.subtract(moduli[m]));
        }
        leaves(0, Model.N, Model.N);
        leaves(1, Model.P, Model.P.subtract(Model.N));
        leaves(1, Model.P.subtract(ONE), Model.P.subtract(ONE).subtract(Model.N));
    }

    private void onlyRegisterR() {
        for (int r = 0; r < 8; r++) {
            int register = r;
            Scene scene = new Scene(check, "Register r becomes what is left of itself");
            for (int i = 0; i < 8; i++) {
                scene.number(i, Bench.HIGHEST);
            }
            scene.answers(true, desk -> desk.reduce(register, 0)).becomes(r, 4294968272L).andNothingElse();
        }
    }

    private void falseForNoSuchRegister() {
        for (int none : Bench.NO_REGISTERS) {
            new Scene(check, "false if there is no such register: " + none)
                    .number(0, Bench.HIGHEST).number(7, Bench.HIGHEST)
                    .answers(false, desk -> desk.reduce(none, 0))
                    .answers(false, desk -> desk.reduce(none, 1))
                    .answers(false, desk -> desk.reduce(none, 2)).andNothingElse();
        }
    }

    private void falseForNoSuchModulus() {
        for (int none : NO_MODULI) {
            new Scene(check, "false if there is no such modulus: " + none)
                    .number(0, Bench.HIGHEST).number(7, Model.P)
                    .answers(false, desk -> desk.reduce(0, none))
                    .answers(false, desk -> desk.reduce(7, none)).andNothingElse();
        }
    }
}
