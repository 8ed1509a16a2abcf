/** Promises 14 to 17: marks of old maps, and rates that would have met them. */
public final class MapsTest {
    private static final Checks CHECKS = new Checks();
    /** In year 1 its bend at 80 is moved by -240 times the rate times 5 by 10000. */
    private static final int[] BEND = {0, 256, 40, 256, 80, 296, 120, 256, 160, 256, 511, 256};
    /** Still, but cut in year 1 if long is 64 and near is 10. */
    private static final int[] NECK = {0, 100, 100, 100, 100, 160, 60, 160, 60, 106, 300, 106};

    public static void main(String[] args) {
        marksAreNumbered();
        marksAreRefused();
        toleranceIsTaken();
        ratesAreRefused();
        noMarksAreMetByAll();
        ratesOfYearOne();
        allMarksMustBeMet();
        byTheLineThatWasTold();
        bySettingsAndBanksOfNow();
        behindCuts();
        yearSixty();
        ratesOfTheLatestMet();
        metChangesNothingElse();
        CHECKS.finish();
    }

    private static MeanderBench bend(int tolerance) {
        MeanderBench bench = new MeanderBench();
        Checks.tellLine(bench, BEND);
        bench.marks(tolerance);
        return bench;
    }

    private static void marksAreNumbered() {
        MeanderBench bench = new MeanderBench();
        for (int k = 0; k < 30; k++) {
            CHECKS.same("mark " + k, bench.mark(0, 256, k), k);
            CHECKS.same("count(4)", bench.count(4), k + 1);
        }
        CHECKS.same("mark 30", bench.mark(0, 256, 0), -1);
        CHECKS.same("count(4)", bench.count(4), 30);
        CHECKS.same("all are met", bench.met(50, 50), 1);
        CHECKS.same("marks(0)", bench.marks(0), true);
        CHECKS.same("mark behind marks()", bench.mark(1, 1, 1), 0);
    }

    private static void marksAreRefused() {
        MeanderBench bench = new MeanderBench();
        int[][] wrong = {{-1, 0, 0}, {512, 0, 0}, {0, -1, 0}, {0, 512, 0}, {0, 0, -1}, {0, 0, 61},
            {Integer.MIN_VALUE, 0, 0}, {0, Integer.MAX_VALUE, 0}, {0, 0, Integer.MIN_VALUE}, {0, 0, Integer.MAX_VALUE}};
        for (int[] w : wrong) {
            CHECKS.same("mark(" + w[0] + ", " + w[1] + ", " + w[2] + ")", bench.mark(w[0], w[1], w[2]), -1);
        }
        CHECKS.same("count(4)", bench.count(4), 0);
        CHECKS.same("mark(511, 511, 60)", bench.mark(511, 511, 60), 0);
        CHECKS.same("mark(0, 0, 0)", bench.mark(0, 0, 0), 1);
    }

    private static int metBy(MeanderBench bench, int x, int y, int year) {
        bench.mark(x, y, year);
        return bench.met(7, 7);
    }

    private static void toleranceIsTaken() {
        CHECKS.same("8 at first", metBy(new MeanderBench(), 136, 248, 0), 1);
        CHECKS.same("8 at first: x", metBy(new MeanderBench(), 137, 256, 0), 0);
        CHECKS.same("8 at first: y", metBy(new MeanderBench(), 128, 247, 0), 0);
        for (int tolerance : new int[] {0, 1, 50}) {
            MeanderBench bench = new MeanderBench();
            CHECKS.same("marks(" + tolerance + ")", bench.marks(tolerance), true);
            CHECKS.same("at " + tolerance, metBy(bench, 128 + tolerance, 256 + tolerance, 0), 1);
            bench.marks(tolerance);
            CHECKS.same("x beyond " + tolerance, metBy(bench, 127 - tolerance, 256, 0), 0);
            bench.marks(tolerance);
            CHECKS.same("y beyond " + tolerance, metBy(bench, 128, 257 + tolerance, 0), 0);
        }
        MeanderBench bench = new MeanderBench();
        bench.mark(137, 256, 0);
        for (int wrong : new int[] {-1, 51, Integer.MIN_VALUE, Integer.MAX_VALUE}) {
            CHECKS.same("marks(" + wrong + ")", bench.marks(wrong), false);
        }
        CHECKS.same("marks stay", bench.count(4), 1);
        CHECKS.same("tolerance stays", bench.met(7, 7), 0);
        // Two points, each of which is near by one coordinate alone.
        MeanderBench two = Checks.stillBench(64, 1, 0, 0, 100, 50, 50, 100, 200, 200);
        CHECKS.same("x of one point, y of another", metBy(two, 100, 100, 0), 0);
    }

    private static void ratesAreRefused() {
        MeanderBench bench = new MeanderBench();
        CHECKS.same("met(3, 4)", bench.met(3, 4), 2);
        int[][] wrong = {{-1, 4}, {5, 4}, {181, 201}, {201, 201}, {0, 20}, {100, 120}, {0, 200}, {-1, -1},
            {Integer.MIN_VALUE, Integer.MAX_VALUE}, {Integer.MAX_VALUE, Integer.MIN_VALUE}, {200, Integer.MAX_VALUE},
            {Integer.MIN_VALUE, 0}, {Integer.MIN_VALUE, 200}, {Integer.MIN_VALUE, Integer.MIN_VALUE}};
        for (int[] w : wrong) {
            CHECKS.same("met(" + w[0] + ", " + w[1] + ")", bench.met(w[0], w[1]), -1);
            CHECKS.same("rate(0) of the one before", bench.rate(0), 3);
            CHECKS.same("rate(1) of the one before", bench.rate(1), 4);
            CHECKS.same("rate(2) of the one before", bench.rate(2), -1);
        }
        CHECKS.same("met(0, 0)", bench.met(0, 0), 1);
        CHECKS.same("met(200, 200)", bench.met(200, 200), 1);
        CHECKS.same("met(181, 200)", bench.met(181, 200), 20);
    }

    private static void noMarksAreMetByAll() {
        MeanderBench bench = new MeanderBench();
        CHECKS.same("rate(0) ahead of any", bench.rate(0), -1);
        CHECKS.same("met(30, 49)", bench.met(30, 49), 20);
        for (int k = 0; k < 20; k++) {
            CHECKS.same("rate(" + k + ")", bench.rate(k), 30 + k);
        }
        for (int k : new int[] {-1, 20, Integer.MIN_VALUE, Integer.MAX_VALUE}) {
            CHECKS.same("rate(" + k + ")", bench.rate(k), -1);
        }
    }

    private static void ratesOfYearOne() {
        MeanderBench bench = bend(0);
        bench.mark(80, 302, 1);
        CHECKS.same("met(45, 60)", bench.met(45, 60), 9);
        for (int k = 0; k < 9; k++) {
            CHECKS.same("rate(" + k + ")", bench.rate(k), 50 + k);
        }
        CHECKS.same("rate(9)", bench.rate(9), -1);
        CHECKS.same("met(49, 49)", bench.met(49, 49), 0);
        CHECKS.same("met(50, 50)", bench.met(50, 50), 1);
        CHECKS.same("met(59, 59)", bench.met(59, 59), 0);
        CHECKS.same("met(55, 74)", bench.met(55, 74), 4);
        CHECKS.same("rate(3)", bench.rate(3), 58);
    }

    private static void allMarksMustBeMet() {
        MeanderBench bench = bend(1);
        // 301 to 303, and 302 to 304.
        bench.mark(80, 302, 1);
        CHECKS.same("rates from 42 to 66", bench.met(40, 59), 18);
        bench.mark(80, 303, 1);
        CHECKS.same("rates from 50 to 66", bench.met(40, 59), 10);
        bench.mark(40, 256, 0);
        CHECKS.same("a mark of year 0 behind others", bench.met(40, 59), 10);
        bench.mark(42, 256, 0);
        CHECKS.same("one that is not met by any", bench.met(40, 59), 0);
        bench.marks(2);
        bench.mark(42, 256, 0);
        CHECKS.same("marks of before are gone", bench.met(40, 59), 20);
    }

    private static void byTheLineThatWasTold() {
        MeanderBench bench = bend(0);
        bench.mark(80, 296, 0);
        bench.mark(80, 302, 1);
        bench.go(9);
        CHECKS.same("from the beginning", bench.met(45, 60), 9);
        Checks.tellLine(bench, 0, 0, 10, 0, 20, 0, 30, 0);
        CHECKS.same("another line", bench.met(45, 60), 0);
        MeanderBench first = new MeanderBench();
        first.go(5);
        first.marks(0);
        first.mark(384, 256, 0);
        CHECKS.same("the line of a new object", first.met(0, 0), 1);
        first.mark(64, 256, 0);
        CHECKS.same("not the line of now", first.met(0, 0), 0);
    }

    private static void bySettingsAndBanksOfNow() {
        MeanderBench bench = bend(0);
        bench.mark(80, 302, 1);
        bench.set(1, 4, 2, 1, 32, 8);
        CHECKS.same("the rate of now is of no account", bench.met(45, 60), 9);
        // -320 times the rate times 5 by 10000 is -6 from 38 to 43.
        bench.set(50, 4, 0, 1, 32, 8);
        CHECKS.same("weights of now", bench.met(30, 49), 6);
        CHECKS.same("the least", bench.rate(0), 38);
        bench.set(50, 4, 2, 1, 32, 8);
        Checks.tellBanks(bench, new int[64]);
        CHECKS.same("banks of now", bench.met(45, 60), 0);
        bench.marks(0);
        bench.mark(80, 296, 60);
        CHECKS.same("banks of 0 move nothing", bench.met(181, 200), 20);
        bench.marks(0);
        bench.mark(20, 256, 1);
        CHECKS.same("long of now", bench.met(0, 0), 1);
        bench.set(50, 4, 2, 1, 64, 8);
        CHECKS.same("another long", bench.met(0, 0), 0);
    }

    private static void behindCuts() {
        MeanderBench bench = Checks.stillBench(64, 10, NECK);
        bench.marks(0);
        bench.mark(100, 160, 0);
        CHECKS.same("ahead of the cut", bench.met(0, 0), 1);
        bench.mark(100, 160, 1);
        CHECKS.same("behind the cut", bench.met(0, 0), 0);
        bench.set(0, 4, 2, 1, 64, 9);
        CHECKS.same("near of now", bench.met(0, 0), 1);
    }

    private static void yearSixty() {
        MeanderBench bench = bend(0);
        bench.go(60);
        int x = bench.point(7, 0);
        int y = bench.point(7, 1);
        bench.mark(x, y, 60);
        CHECKS.same("rate 50 is met in year 60", bench.met(50, 50), 1);
        bench.set(20, 4, 2, 1, 32, 8);
        CHECKS.same("whatever the rate of now", bench.met(50, 50), 1);
    }

    private static void ratesOfTheLatestMet() {
        MeanderBench bench = bend(0);
        CHECKS.same("met(10, 12)", bench.met(10, 12), 3);
        bench.mark(80, 302, 1);
        CHECKS.same("rate(0) behind mark()", bench.rate(0), 10);
        CHECKS.same("met(10, 12)", bench.met(10, 12), 0);
        CHECKS.same("rate(0) of none", bench.rate(0), -1);
        CHECKS.same("met(57, 60)", bench.met(57, 60), 2);
        bench.marks(0);
        bench.go(1);
        CHECKS.same("rate(1) behind marks() and go()", bench.rate(1), 58);
        CHECKS.same("rate(2)", bench.rate(2), -1);
    }

    private static void metChangesNothingElse() {
        MeanderBench bench = Checks.stillBench(64, 10, NECK);
        bench.plot(80, 130);
        bench.feed(0, 0, 0, 0, 0);
        bench.go(1);
        bench.mark(0, 100, 60);
        CHECKS.same("met(0, 19)", bench.met(0, 19), 20);
        bench.foretold(true);
        CHECKS.same("year", bench.count(0), 1);
        CHECKS.same("loops", bench.count(2), 1);
        CHECKS.same("marks", bench.count(4), 1);
        CHECKS.same("bytes", bench.count(6), 20);
        CHECKS.same("owner", bench.owner(0, 0), 1);
        CHECKS.same("changes", bench.owner(0, 2), 0);
        CHECKS.line("the line", bench, 0, 100, 50, 100, 60, 106, 180, 106, 300, 106);
        bench.go(1);
        CHECKS.same("the rate of set() is still the river's", bench.point(1, 1), 100);
    }
}
