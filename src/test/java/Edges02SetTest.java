/** The edges of promise 2, one test for each of its sentences. */
final class Edges02SetTest {
    private final Check check = new Check();

    public static void main(String[] args) {
        Edges02SetTest test = new Edges02SetTest();
        test.theLowestAndHighest();
        test.firstAndLastRegister();
        test.falseForNoSuchRegister();
        test.check.end();
    }

    private void theLowestAndHighest() {
        String sentence = "Register r becomes a number: true";
        new Scene(check, sentence).answers(true, desk -> desk.set(4, 0, 0, 0, 0)).becomes(4, 0).andNothingElse();
        new Scene(check, sentence).answers(true, desk -> desk.set(4, -1, -1, -1, -1))
                .becomes(4, Bench.HIGHEST).andNothingElse();
        // Numbers that are not below a modulus are numbers too.
        new Scene(check, sentence).answers(true, desk -> desk.set(4, -1, -1, -1, -4294968273L))
                .becomes(4, Model.P).andNothingElse();
        new Scene(check, sentence).answers(true, desk -> desk.set(4, Bench.longOf(Model.N, 0),
                Bench.longOf(Model.N, 1), Bench.longOf(Model.N, 2), Bench.longOf(Model.N, 3)))
                .becomes(4, Model.N).andNothingElse();
    }

    private void firstAndLastRegister() {
        String sentence = "Register r becomes a number: true";
        new Scene(check, sentence).answers(true, desk -> desk.set(0, 0, 0, 0, 1)).becomes(0, 1).andNothingElse();
        new Scene(check, sentence).answers(true, desk -> desk.set(7, 0, 0, 0, 1)).becomes(7, 1).andNothingElse();
    }

    private void falseForNoSuchRegister() {
        for (int none : Bench.NO_REGISTERS) {
            new Scene(check, "false if there is no such register: " + none)
                    .answers(false, desk -> desk.set(none, 1, 2, 3, 4))
                    .answers(false, desk -> desk.set(none, 0, 0, 0, 0)).andNothingElse();
        }
    }
}
