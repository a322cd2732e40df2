import java.math.BigInteger;

/** The edges that 'Terms' names of numbers, registers, spots and moduli, one test for each sentence. */
final class EdgesNumbersTest {
    private static final BigInteger ONE = BigInteger.ONE;

    private final Check check = new Check();

    public static void main(String[] args) {
        EdgesNumbersTest test = new EdgesNumbersTest();
        test.numbersAreFrom0To2To256Less1();
        test.fourLongsTheHighestFirst();
        test.registersAre0To7();
        test.noRegisterBelow0OrAbove7();
        test.spotsAre0To3();
        test.noSpotBelow0OrAbove3();
        test.modulusZeroIsP();
        test.modulusOneIsN();
        test.noModulusBelow0OrAbove1();
        test.memoryIsTheObjectsOwn();
        test.check.end();
    }

    private Scene scene(String sentence) {
        return new Scene(check, sentence);
    }

    private void numbersAreFrom0To2To256Less1() {
        String sentence = "NUMBERS are 0 .. 2 ^ 256 - 1";
        scene(sentence).answers(true, desk -> desk.set(2, 0, 0, 0, 0)).becomes(2, 0).andNothingElse();
        scene(sentence).answers(true, desk -> desk.set(2, -1, -1, -1, -1))
                .becomes(2, Bench.HIGHEST).andNothingElse();
        for (int bit = 0; bit < 256; bit++) {
            BigInteger number = ONE.shiftLeft(bit);
            Bench bench = new Bench();
            bench.write(3, number);
            check.due(sentence + ": 2 ^ " + bit, bench.read(3), number);
            bench.write(3, number.subtract(ONE));
            check.due(sentence + ": 2 ^ " + bit + " - 1", bench.read(3), number.subtract(ONE));
            bench.write(3, Bench.HIGHEST.subtract(number));
            check.due(sentence + ": all bits but " + bit, bench.read(3), Bench.HIGHEST.subtract(number));
        }
    }

    private void fourLongsTheHighestFirst() {
        String sentence = "told as four longs, each 64 bits of it, the highest first";
        scene(sentence).answers(true, desk -> desk.set(0, 1, 0, 0, 0)).becomes(0, ONE.shiftLeft(192)).andNothingElse();
        scene(sentence).answers(true, desk -> desk.set(0, 0, 1, 0, 0)).becomes(0, ONE.shiftLeft(128)).andNothingElse();
        scene(sentence).answers(true, desk -> desk.set(0, 0, 0, 1, 0)).becomes(0, ONE.shiftLeft(64)).andNothingElse();
        scene(sentence).answers(true, desk -> desk.set(0, 0, 0, 0, 1)).becomes(0, ONE).andNothingElse();
        // A long below 0 is a high one, and takes nothing from the long above it.
        scene(sentence).answers(true, desk -> desk.set(0, 0, -1, Long.MIN_VALUE, -2))
                .answers(0L, desk -> desk.get(0, 0))
                .answers(-1L, desk -> desk.get(0, 1))
                .answers(Long.MIN_VALUE, desk -> desk.get(0, 2))
                .answers(-2L, desk -> desk.get(0, 3))
                .becomes(0, new BigInteger("FFFFFFFFFFFFFFFF8000000000000000FFFFFFFFFFFFFFFE", 16))
                .andNothingElse();
    }

    private void registersAre0To7() {
        for (int r = 0; r < 8; r++) {
            int register = r;
            scene("REGISTERS 0 .. 7 have a number each")
                    .answers(true, desk -> desk.set(register, 0, 0, 0, 77)).becomes(r, 77).andNothingElse();
        }
    }

    /** Asked of each place in which a call takes a register. */
    private void noRegisterBelow0OrAbove7() {
        for (int none : Bench.NO_REGISTERS) {
            scene("REGISTERS 0 .. 7, so there is no " + none).number(4, Model.BASE.x()).number(5, Model.BASE.y())
                    .answers(false, desk -> desk.set(none, 1, 2, 3, 4))
                    .answers(0L, desk -> desk.get(none, 0))
                    .answers(false, desk -> desk.reduce(none, 0))
                    .answers(0, desk -> desk.work(0, none, 1, 2, 0))
                    .answers(0, desk -> desk.work(0, 0, none, 2, 0))
                    .answers(0, desk -> desk.work(0, 0, 1, none, 0))
                    .answers(0, desk -> desk.root(none, 1))
                    .answers(0, desk -> desk.root(1, none))
                    .answers(0, desk -> desk.spot(2, 1, none, 5))
                    .answers(0, desk -> desk.spot(2, 1, 4, none))
                    .answers(false, desk -> desk.times(1, 0, none))
                    .answers(-1, desk -> desk.place(0, none, 1))
                    .answers(-1, desk -> desk.place(0, 1, none))
                    .answers(-1, desk -> desk.signature(none, 1))
                    .answers(-1, desk -> desk.signature(1, none))
                    .answers(-1, desk -> desk.fits(0, none, 1, 2))
                    .answers(-1, desk -> desk.fits(0, 1, none, 2))
                    .answers(-1, desk -> desk.fits(0, 1, 2, none))
                    .andNothingElse();
        }
    }

    private void spotsAre0To3() {
        Model.Pair other = Model.times(BigInteger.TEN, Model.BASE);
        for (int q = 0; q < 4; q++) {
            int spot = q;
            scene("SPOTS 0 .. 3 have a point each").number(0, other.x()).number(1, other.y())
                    .answers(1, desk -> desk.spot(2, spot, 0, 1)).spotBecomes(q, other).andNothingElse();
        }
    }

    /** Asked of each place in which a call takes a spot. */
    private void noSpotBelow0OrAbove3() {
        for (int none : Bench.NO_SPOTS) {
            scene("SPOTS 0 .. 3, so there is no " + none).number(4, Model.BASE.x()).number(5, Model.BASE.y())
                    .answers(0, desk -> desk.spot(0, none, 4, 5))
                    .answers(0, desk -> desk.spot(1, none, 4, 5))
                    .answers(0, desk -> desk.spot(2, none, 4, 5))
                    .answers(false, desk -> desk.sum(none, 0, 2))
                    .answers(false, desk -> desk.sum(1, none, 2))
                    .answers(false, desk -> desk.sum(1, 0, none))
                    .answers(false, desk -> desk.times(none, 0, 1))
                    .answers(false, desk -> desk.times(1, none, 1))
                    .answers(-1, desk -> desk.place(none, 0, 1))
                    .answers(-1, desk -> desk.key(none))
                    .answers(-1, desk -> desk.fits(none, 0, 1, 2))
                    .andNothingElse();
        }
    }

    private void leaves(int m, BigInteger number, BigInteger left) {
        scene("MODULI: " + number + " by modulus " + m).number(6, number)
                .answers(true, desk -> desk.reduce(6, m)).becomes(6, left).andNothingElse();
    }

    /** The highest number is 2 ^ 32 + 976 above P. */
    private void modulusZeroIsP() {
        BigInteger p = Bench.TWO_256.subtract(BigInteger.valueOf((1L << 32) + 977));
        leaves(0, p.subtract(ONE), p.subtract(ONE));
        leaves(0, p, BigInteger.ZERO);
        leaves(0, p.add(ONE), ONE);
        leaves(0, Bench.HIGHEST, BigInteger.valueOf((1L << 32) + 976));
    }

    /** Both ways in which the document writes N are one number. */
    private void modulusOneIsN() {
        BigInteger gap = new BigInteger("432420386565659656852420866394968145599");
        BigInteger n = Bench.TWO_256.subtract(gap);
        check.due("MODULI: 1: N", n, Model.N);
        leaves(1, n.subtract(ONE), n.subtract(ONE));
        leaves(1, n, BigInteger.ZERO);
        leaves(1, n.add(ONE), ONE);
        leaves(1, Bench.HIGHEST, gap.subtract(ONE));
    }

    private void noModulusBelow0OrAbove1() {
        int[] noModuli = {-1, 2, 3, Integer.MIN_VALUE, Integer.MAX_VALUE};
        for (int none : noModuli) {
            scene("MODULI: 0 and 1, so there is no " + none).number(0, Bench.HIGHEST)
                    .answers(false, desk -> desk.reduce(0, none))
                    .answers(0, desk -> desk.work(0, 0, 1, 2, none))
                    .answers(0, desk -> desk.work(1, 0, 1, 2, none))
                    .answers(0, desk -> desk.work(2, 0, 1, 2, none))
                    .answers(0, desk -> desk.work(3, 0, 1, 2, none))
                    .andNothingElse();
        }
    }

    /** Calls on a second object, between two on the first, are not seen there. */
    private void memoryIsTheObjectsOwn() {
        CurveDesk other = new CurveDesk();
        scene("All memory is the class's own")
                .answers(true, desk -> other.set(0, 9, 9, 9, 9))
                .answers(1, desk -> other.spot(1, 1, 0, 0))
                .answers(true, desk -> other.put(-1, 8))
                .answers(true, desk -> other.times(2, 1, 0))
                .answers(1, desk -> other.work(3, 1, 0, 0, 0))
                .answers(0, desk -> other.key(3))
                .andNothingElse();
    }
}
