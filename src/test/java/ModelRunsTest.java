import java.util.NoSuchElementException;
import java.util.Random;
import java.util.function.IntSupplier;

/** Runs of chance (the same ones each time) on a bench and on the model: all promises together. */
public final class ModelRunsTest {
    private static final int RUNS = 300;
    private static final int CALLS = 300;
    private static final int THROWN = Integer.MIN_VALUE;

    private final Checks checks = new Checks();
    private final Random chance;
    private final int seed;
    private final MeanderBench bench = new MeanderBench();
    private final Model model = new Model();

    private static int mostLoops = 0;
    private static int ownersChanged = 0;
    private static int ratesRefused = 0;
    private static int cutsForetold = 0;
    private static int crossed = 0;

    private ModelRunsTest(int seed) {
        this.seed = seed;
        this.chance = new Random(seed);
    }

    public static void main(String[] args) {
        for (int seed = 0; seed < RUNS; seed++) {
            new ModelRunsTest(seed).run();
        }
        Checks reached = new Checks();
        // The runs are worth little if they do not reach what is seldom.
        reached.same("runs reach 30 loops", mostLoops, 30);
        reached.same("runs reach owners that change", ownersChanged > 1000, true);
        reached.same("runs reach rates that are not met", ratesRefused > 1000, true);
        reached.same("runs reach cuts that are foretold", cutsForetold > 1000, true);
        reached.same("runs reach crossings", crossed > 1000, true);
        reached.finish();
    }

    private void run() {
        for (int call = 0; call < CALLS; call++) {
            if (chance.nextInt(12) == 0) {
                tellLine();
            } else {
                callOne();
            }
        }
        wholeState();
        checks.finish();
    }

    private void both(String call, IntSupplier got, IntSupplier due) {
        checks.same("seed " + seed + ": " + call, answer(got), answer(due));
    }

    private static int answer(IntSupplier call) {
        try {
            return call.getAsInt();
        } catch (NoSuchElementException e) {
            return THROWN;
        }
    }

    private static int bit(boolean b) {
        return b ? 1 : 0;
    }

    private int upTo(int most) {
        return chance.nextInt(most + 1);
    }

    /** Mostly from least to most, now and then just beyond, or far beyond. */
    private int about(int least, int most) {
        switch (chance.nextInt(40)) {
            case 0: return least - 1;
            case 1: return most + 1;
            case 2: return chance.nextInt();
            case 3: return least;
            case 4: return most;
            default: return least + chance.nextInt(most - least + 1);
        }
    }

    private void feed(int... bytes) {
        both("end(0)", () -> bit(bench.end(0)), () -> bit(model.end(0)));
        int[] n = new int[5];
        for (int at = 0; at < bytes.length; at += 20) {
            for (int k = 0; k < 20; k++) {
                n[k / 4] = n[k / 4] << 8 | (at + k < bytes.length ? bytes[at + k] : chance.nextInt(256));
            }
            both("feed", () -> bench.feed(n[0], n[1], n[2], n[3], n[4]), () -> model.feed(n));
        }
        both("end", () -> bit(bench.end(bytes.length)), () -> bit(model.end(bytes.length)));
    }

    private void tellLine() {
        int points = chance.nextInt(5) == 0 ? 4 + upTo(3) : about(4, 48) & 63;
        int[] xy = new int[2 * points];
        int kind = chance.nextInt(5);
        int step = 1 + upTo(40);
        for (int k = 0; k < xy.length; k++) {
            int flat = k % 2 == 0 ? k * 255 / Math.max(1, points) : 256;
            switch (kind) {
                case 0: xy[k] = upTo(511); break;
                case 1: xy[k] = Math.floorMod(flat + upTo(2 * step) - step, 512); break;
                case 2: xy[k] = k < 2 ? 100 + upTo(300) : Math.floorMod(xy[k - 2] + upTo(2 * step) - step, 512); break;
                case 3: xy[k] = 200 + upTo(step); break;
                default: xy[k] = k % 2 == 0 ? Math.min(511, flat) : 256 + (int) (100 * Math.sin(k * 0.13 * step)); break;
            }
        }
        if (chance.nextInt(20) == 0 && xy.length > 0) {
            xy[chance.nextInt(xy.length)] = 512 + upTo(60000);
        }
        feed(Checks.bytesOfLine(xy));
        both("line()", () -> bit(bench.line()), () -> bit(model.line()));
    }

    private void tellBanks() {
        int[] banks = new int[chance.nextInt(8) == 0 ? 60 + upTo(8) : 64];
        for (int k = 0; k < banks.length; k++) {
            banks[k] = upTo(9);
        }
        if (chance.nextInt(8) == 0) {
            banks[chance.nextInt(banks.length)] = 10 + upTo(245);
        }
        feed(banks);
        both("banks()", () -> bit(bench.banks()), () -> bit(model.banks()));
    }

    private void set() {
        int rate = about(0, 200);
        int w0 = about(0, 9);
        int w1 = about(0, 9);
        int w2 = about(0, 9);
        int length = about(8, 64);
        int near = about(1, 32);
        both("set", () -> bit(bench.set(rate, w0, w1, w2, length, near)),
                () -> bit(model.set(rate, w0, w1, w2, length, near)));
    }

    private void mark() {
        boolean atPoint = chance.nextInt(3) != 0;
        int k = chance.nextInt(model.line.size());
        int x = atPoint ? model.line.get(k)[0] : about(0, 511);
        int y = atPoint ? model.line.get(k)[1] : about(0, 511);
        int year = atPoint ? model.year : about(0, 60);
        both("mark(" + x + ", " + y + ", " + year + ")", () -> bench.mark(x, y, year), () -> model.mark(x, y, year));
    }

    private void met() {
        int low = about(0, 200);
        int high = chance.nextInt(10) == 0 ? about(0, 200) : low + upTo(chance.nextInt(4) == 0 ? 20 : 5);
        both("met(" + low + ", " + high + ")", () -> bench.met(low, high), () -> model.met(low, high));
        ratesRefused += model.rates.size() < high - low + 1 ? 1 : 0;
        int k = about(0, 19);
        both("rate(" + k + ")", () -> bench.rate(k), () -> model.rate(k));
        foretold();
    }

    private void foretold() {
        boolean most = chance.nextBoolean();
        both("foretold(" + most + ")", () -> bench.foretold(most), () -> model.foretold(most));
        int year = model.foretold(most);
        cutsForetold += year != 61 && year != -1 ? 1 : 0;
    }

    private void callOne() {
        int a = about(0, 511);
        int b = about(0, 511);
        int what = about(0, 2);
        switch (chance.nextInt(20)) {
            case 0: feed(upTo(255), upTo(255)); break;
            case 1: both("feed", () -> bench.feed(a, b, a, b, -a), () -> model.feed(a, b, a, b, -a)); break;
            case 2: int n = about(0, 220); both("end(" + n + ")", () -> bit(bench.end(n)), () -> bit(model.end(n))); break;
            case 3: both("line()", () -> bit(bench.line()), () -> bit(model.line())); break;
            case 4: tellBanks(); break;
            case 5: set(); break;
            case 6: case 7: case 8:
                int years = chance.nextInt(3) == 0 ? about(0, 200) : upTo(5);
                both("go(" + years + ")", () -> bench.go(years), () -> model.go(years));
                wholeState();
                break;
            case 9: case 10: both("side(" + a + ", " + b + ")", () -> bench.side(a, b), () -> model.side(a, b)); break;
            case 11: case 12: both("plot(" + a + ", " + b + ")", () -> bench.plot(a, b), () -> model.plot(a, b)); break;
            case 13: case 14: mark(); break;
            case 15:
                int t = about(0, 50);
                if (chance.nextInt(3) == 0) {
                    both("marks(" + t + ")", () -> bit(bench.marks(t)), () -> bit(model.marks(t)));
                }
                break;
            case 16: met(); break;
            case 17: foretold(); break;
            case 18:
                both("point", () -> bench.point(b, what), () -> model.point(b, what));
                both("loop", () -> bench.loop(b, what), () -> model.loop(b, what));
                both("owner", () -> bench.owner(b, what), () -> model.owner(b, what));
                break;
            default: both("count(" + what + ")", () -> bench.count(what), () -> model.count(what)); break;
        }
    }

    private void wholeState() {
        for (int what = -1; what <= 7; what++) {
            int w = what;
            both("count(" + w + ")", () -> bench.count(w), () -> model.count(w));
        }
        for (int what = 0; what <= 2; what++) {
            int w = what;
            for (int at = 0; at <= 48; at++) {
                int k = at;
                both("point(" + k + ", " + w + ")", () -> bench.point(k, w), () -> model.point(k, w));
                both("loop(" + k + ", " + w + ")", () -> bench.loop(k, w), () -> model.loop(k, w));
                both("owner(" + k + ", " + w + ")", () -> bench.owner(k, w), () -> model.owner(k, w));
            }
        }
        both("crossings()", bench::crossings, model::crossings);
        crossed += model.crossings() > 0 ? 1 : 0;
        mostLoops = Math.max(mostLoops, model.loops.size());
        for (int[] plot : model.plots) {
            ownersChanged += plot[3];
        }
    }
}
