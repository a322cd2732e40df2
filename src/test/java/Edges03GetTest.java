/** The edges of promise 3, one test for each of its sentences. */
final class Edges03GetTest {
    private final Check check = new Check();

    public static void main(String[] args) {
        Edges03GetTest test = new Edges03GetTest();
        test.longs0To3();
        test.zeroForNoSuchLong();
        test.zeroForNoSuchRegister();
        test.check.end();
    }

    /** In the first and the last register, whose longs are all unlike. */
    private void longs0To3() {
        String sentence = "Long k of register r (0 the highest .. 3)";
        for (int r = 0; r < 8; r += 7) {
            int register = r;
            new Scene(check, sentence)
                    .answers(true, desk -> desk.set(register, Long.MIN_VALUE, -1, Long.MAX_VALUE, 1))
                    .answers(Long.MIN_VALUE, desk -> desk.get(register, 0))
                    .answers(-1L, desk -> desk.get(register, 1))
                    .answers(Long.MAX_VALUE, desk -> desk.get(register, 2))
                    .answers(1L, desk -> desk.get(register, 3))
                    .becomes(r, new java.math.BigInteger(
                            "8000000000000000FFFFFFFFFFFFFFFF7FFFFFFFFFFFFFFF0000000000000001", 16))
                    .andNothingElse();
        }
    }

    private void zeroForNoSuchLong() {
        int[] noLongs = {-1, -2, 4, 5, 7, 8, Integer.MIN_VALUE, Integer.MAX_VALUE};
        for (int none : noLongs) {
            new Scene(check, "0 for no such one: long " + none).number(0, Bench.HIGHEST).number(7, Bench.HIGHEST)
                    .answers(0L, desk -> desk.get(0, none))
                    .answers(0L, desk -> desk.get(3, none))
                    .answers(0L, desk -> desk.get(7, none)).andNothingElse();
        }
    }

    private void zeroForNoSuchRegister() {
        for (int none : Bench.NO_REGISTERS) {
            new Scene(check, "0 for no such one: register " + none).number(0, Bench.HIGHEST).number(7, Bench.HIGHEST)
                    .answers(0L, desk -> desk.get(none, 0))
                    .answers(0L, desk -> desk.get(none, 3))
                    .answers(0L, desk -> desk.get(none, 4))
                    .answers(0L, desk -> desk.get(none, -1)).andNothingElse();
        }
    }
}
