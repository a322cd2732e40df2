import java.math.BigInteger;

/** The edges of promise 14, one test for each of its sentences; what FITS is in EdgesFitsTest. */
final class Edges14FitsTest {
    private static final BigInteger X = Model.BASE.x();
    private static final BigInteger TWICE_X = Scene.TWO_BASES.x();

    private final Check check = new Check();

    public static void main(String[] args) {
        Edges14FitsTest test = new Edges14FitsTest();
        test.oneOrZero();
        test.zeroIfTheSpotIsNone();
        test.registersMayBeOne();
        test.refusedForNoSuchRegister();
        test.refusedForNoSuchSpot();
        test.refusedBeforeNone();
        test.check.end();
    }

    /** With z = 0 and r = s the key itself is met. Nothing changes, the bytes stay. */
    private void oneOrZero() {
        for (int q = 0; q < 4; q++) {
            int spot = q;
            new Scene(check, "Whether the signature fits: 1 or 0").point(q, Model.BASE)
                    .number(0, X).number(7, X).number(4, 0).number(5, 1)
                    .answers(1, desk -> desk.fits(spot, 0, 7, 4))
                    .answers(0, desk -> desk.fits(spot, 0, 7, 5))
                    .answers(1, desk -> desk.fits(spot, 7, 0, 4)).andNothingElse();
        }
    }

    /** With s = z the base is met and its x is r, were it not for the spot. */
    private void zeroIfTheSpotIsNone() {
        for (int q = 0; q < 4; q++) {
            int spot = q;
            new Scene(check, "0 also if the spot is NONE").point(q, null).number(0, X).number(1, 1).number(2, 1)
                    .answers(0, desk -> desk.fits(spot, 0, 1, 2)).andNothingElse();
        }
        new Scene(check, "0 also if the spot is NONE, having been a key").number(0, X).number(1, 1).number(2, 1)
                .number(3, X).number(4, 0)
                .answers(1, desk -> desk.fits(0, 0, 3, 4))
                .answers(1, desk -> desk.spot(0, 0, 0, 0)).spotBecomes(0, null)
                .answers(0, desk -> desk.fits(0, 0, 3, 4))
                .answers(0, desk -> desk.fits(0, 0, 1, 2)).andNothingElse();
    }

    /** The document asks for two registers in place and signature alone. */
    private void registersMayBeOne() {
        String sentence = "the signature of registers r and s fits register z, some of them being one";
        new Scene(check, sentence + ", r = s = z").number(3, TWICE_X)
                .answers(1, desk -> desk.fits(0, 3, 3, 3)).andNothingElse();
        new Scene(check, sentence + ", r = s").number(3, X).number(4, 0)
                .answers(1, desk -> desk.fits(0, 3, 3, 4)).andNothingElse();
        Model.Pair shared = Model.times(TWICE_X.modInverse(Model.N), Model.BASE);
        new Scene(check, sentence + ", s = z").point(0, shared).number(3, TWICE_X).number(4, 1)
                .answers(1, desk -> desk.fits(0, 3, 4, 4)).andNothingElse();
        new Scene(check, sentence + ", r = z").number(3, TWICE_X).number(4, Model.N.subtract(TWICE_X))
                .answers(1, desk -> desk.fits(0, 3, 4, 3)).andNothingElse();
    }

    private void refusedForNoSuchRegister() {
        for (int none : Bench.NO_REGISTERS) {
            new Scene(check, "-1, refused, for no such registers: " + none).number(0, X).number(7, X)
                    .answers(-1, desk -> desk.fits(0, none, 1, 2))
                    .answers(-1, desk -> desk.fits(0, 1, none, 2))
                    .answers(-1, desk -> desk.fits(0, 1, 2, none))
                    .answers(-1, desk -> desk.fits(0, none, none, none)).andNothingElse();
        }
    }

    /** 4 .. 7 are registers and no spots. */
    private void refusedForNoSuchSpot() {
        for (int none : Bench.NO_SPOTS) {
            new Scene(check, "-1, refused, for no such spot: " + none).number(0, X).number(1, X).number(2, 0)
                    .answers(-1, desk -> desk.fits(none, 0, 1, 2))
                    .answers(1, desk -> desk.fits(0, 0, 1, 2)).andNothingElse();
        }
    }

    /** A wrong register is refused though the spot is NONE or another number is out of bounds. */
    private void refusedBeforeNone() {
        for (int none : Bench.NO_REGISTERS) {
            new Scene(check, "-1, refused, for no such registers: " + none + ", spot 1 being NONE").number(0, 0)
                    .answers(-1, desk -> desk.fits(1, none, 2, 3))
                    .answers(-1, desk -> desk.fits(1, 2, none, 3))
                    .answers(-1, desk -> desk.fits(1, 2, 3, none))
                    .answers(-1, desk -> desk.fits(0, 0, none, 3))
                    .answers(-1, desk -> desk.fits(0, 0, 0, none)).andNothingElse();
        }
    }
}
