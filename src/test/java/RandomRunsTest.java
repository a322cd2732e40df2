import java.math.BigInteger;
import java.util.Random;

/** Runs of calls, always the same ones, on a desk and on the model beside it: all 14 promises together. */
final class RandomRunsTest {
    private static final int RUNS = 400;
    private static final int CALLS = 48;

    private final Check check;
    private final Random random;
    private final String run;
    private final Bench bench = new Bench();
    private final CurveDesk desk = bench.desk;
    private final Model model = new Model();

    private RandomRunsTest(Check check, int seed) {
        this.check = check;
        random = new Random(seed);
        run = "run " + seed + ", ";
    }

    public static void main(String[] args) {
        Check check = new Check();
        for (int seed = 1; seed <= RUNS; seed++) {
            new RandomRunsTest(check, seed).runAll();
        }
        check.end();
    }

    private void runAll() {
        for (int i = 0; i < CALLS; i++) {
            callOne(run + "call " + i + ": ");
        }
        for (int r = 0; r < 8; r++) {
            check.due(run + "register " + r, bench.read(r), model.registers[r]);
        }
        for (int q = 0; q < 4; q++) {
            check.due(run + "spot " + q, bench.readPoint(q), model.spots[q]);
        }
    }

    private int register() {
        return random.nextInt(40) == 0 ? random.nextInt(20) - 6 : random.nextInt(8);
    }

    private int spot() {
        return random.nextInt(40) == 0 ? random.nextInt(16) - 6 : random.nextInt(4);
    }

    private int modulus() {
        return random.nextInt(40) == 0 ? random.nextInt(8) - 3 : random.nextInt(2);
    }

    private BigInteger number() {
        BigInteger near = BigInteger.valueOf(random.nextInt(5) - 2);
        switch (random.nextInt(8)) {
            case 0:
                return near.abs();
            case 1:
                return Model.P.add(near);
            case 2:
                return Model.N.add(near);
            case 3:
                return Bench.HIGHEST.subtract(near.abs());
            case 4:
                return Bench.HIGHEST.subtract(new BigInteger(random.nextInt(200), random));
            case 5:
                return new BigInteger(random.nextInt(257), random);
            default:
                return new BigInteger(256, random);
        }
    }

    private void callOne(String call) {
        int r = register();
        int s = register();
        int q = spot();
        int kind = random.nextInt(16);
        switch (kind) {
            case 0: case 1: {
                BigInteger n = number();
                boolean known = r >= 0 && r < 8;
                check.due(call + "set(" + r + ")", bench.write(r, n), known);
                if (known) {
                    model.registers[r] = n;
                }
                break;
            }
            case 2: {
                int m = modulus();
                check.due(call + "reduce(" + r + ", " + m + ")", desk.reduce(r, m), model.reduce(r, m));
                break;
            }
            case 3: case 4: {
                int what = random.nextInt(30) == 0 ? random.nextInt(12) - 4 : random.nextInt(4);
                int t = register();
                int m = modulus();
                check.due(call + "work(" + what + ", " + r + ", " + s + ", " + t + ", " + m + ")",
                        desk.work(what, r, s, t, m), model.work(what, r, s, t, m));
                break;
            }
            case 5:
                check.due(call + "root(" + r + ", " + s + ")", desk.root(r, s), model.root(r, s));
                break;
            case 6: case 7: {
                int what = random.nextInt(30) == 0 ? random.nextInt(9) - 3 : random.nextInt(3);
                check.due(call + "spot(" + what + ", " + q + ", " + r + ", " + s + ")",
                        desk.spot(what, q, r, s), model.spot(what, q, r, s));
                break;
            }
            case 8: case 9: {
                int a = spot();
                int b = spot();
                check.due(call + "sum(" + q + ", " + a + ", " + b + ")", desk.sum(q, a, b), model.sum(q, a, b));
                break;
            }
            case 10: {
                int a = spot();
                check.due(call + "times(" + q + ", " + a + ", " + r + ")", desk.times(q, a, r),
                        model.times(q, a, r));
                break;
            }
            case 11:
                check.due(call + "place(" + q + ", " + r + ", " + s + ")", desk.place(q, r, s),
                        model.place(q, r, s));
                break;
            case 12:
                putSome(call);
                break;
            case 13:
                putKey(call);
                check.due(call + "key(" + q + ")", desk.key(q), model.key(q));
                break;
            case 14:
                putSignature(call);
                check.due(call + "signature(" + r + ", " + s + ")", desk.signature(r, s),
                        model.signature(r, s));
                break;
            default: {
                int z = register();
                check.due(call + "fits(" + q + ", " + r + ", " + s + ", " + z + ")",
                        desk.fits(q, r, s, z), model.fits(q, r, s, z));
                break;
            }
        }
    }

    private void putBoth(String call, long v, int n) {
        check.due(call + "put(" + v + ", " + n + ")", desk.put(v, n), model.put(v, n));
    }

    private void putSome(String call) {
        if (random.nextInt(4) == 0) {
            putBoth(call, random.nextLong(), random.nextInt(14) - 2);
        }
    }

    private void putNumber(String call, BigInteger n) {
        for (int k = 0; k < 4; k++) {
            putBoth(call, Bench.longOf(n, k), 8);
        }
    }

    private void putKey(String call) {
        int mark = random.nextInt(10) == 0 ? random.nextInt(256) : 2 + random.nextInt(3);
        putBoth(call, mark, 1);
        if (mark != 4) {
            putNumber(call, number());
            return;
        }
        Model.Pair point = Model.times(BigInteger.valueOf(1 + random.nextInt(1000)), Model.BASE);
        putNumber(call, point.x());
        putNumber(call, random.nextInt(4) == 0 ? number() : point.y());
    }

    /** Mostly a good signature; sometimes with one byte changed, left out or behind it. */
    private void putSignature(String call) {
        byte[] r = number().toByteArray();
        byte[] s = number().toByteArray();
        byte[] all = new byte[6 + r.length + s.length];
        all[0] = 48;
        all[1] = (byte) (all.length - 2);
        all[2] = 2;
        all[3] = (byte) r.length;
        System.arraycopy(r, 0, all, 4, r.length);
        all[4 + r.length] = 2;
        all[5 + r.length] = (byte) s.length;
        System.arraycopy(s, 0, all, 6 + r.length, s.length);
        int harm = random.nextInt(6);
        if (harm == 0) {
            all[random.nextInt(all.length)] += (byte) (random.nextInt(3) - 1);
        }
        if (harm == 1) {
            all[random.nextInt(all.length)] = (byte) random.nextInt(256);
        }
        int length = all.length - (harm == 2 ? 1 : 0);
        for (int from = 0; from < length; from += 8) {
            int n = Math.min(8, length - from);
            putBoth(call, new BigInteger(all, from, n).longValue(), n);
        }
        if (harm == 3) {
            putBoth(call, random.nextInt(3), 1);
        }
    }
}
