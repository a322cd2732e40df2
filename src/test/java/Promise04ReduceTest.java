import java.math.BigInteger;

/** Promise 4: what a modulus leaves of a register; false for no such register or modulus. */
final class Promise04ReduceTest {
    public static void main(String[] args) {
        Check check = new Check();
        Bench bench = new Bench();
        BigInteger[] moduli = {Model.P, Model.N};
        for (int m = 0; m < 2; m++) {
            BigInteger modulus = moduli[m];
            BigInteger[] numbers = {BigInteger.ZERO, BigInteger.ONE, modulus.subtract(BigInteger.ONE), modulus,
                modulus.add(BigInteger.ONE), Bench.HIGHEST, Model.P.subtract(BigInteger.ONE), Model.N,
                BigInteger.ONE.shiftLeft(255)};
            for (int i = 0; i < numbers.length; i++) {
                int r = i % 8;
                bench.write(r, numbers[i]);
                check.due("reduce(" + r + ", " + m + ")", bench.desk.reduce(r, m), true);
                check.due(numbers[i] + " by " + m, bench.read(r), numbers[i].mod(modulus));
            }
        }
        checkRefused(check);
        check.end();
    }

    private static void checkRefused(Check check) {
        Bench bench = new Bench();
        for (int r = 0; r < 8; r++) {
            bench.write(r, Bench.HIGHEST);
        }
        String before = bench.state();
        int[] noModuli = {-1, 2, 3, Integer.MIN_VALUE, Integer.MAX_VALUE};
        for (int m : noModuli) {
            check.due("reduce(0, " + m + ")", bench.desk.reduce(0, m), false);
        }
        for (int r : Bench.NO_REGISTERS) {
            check.due("reduce(" + r + ", 0)", bench.desk.reduce(r, 0), false);
            check.due("reduce(" + r + ", 1)", bench.desk.reduce(r, 1), false);
        }
        check.due("the state behind refused calls", bench.state(), before);
    }
}
