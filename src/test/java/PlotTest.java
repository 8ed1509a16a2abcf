/** Promises 12 and 13: plots, and owners that follow slow moves and not sudden ones. */
public final class PlotTest {
    private static final Checks CHECKS = new Checks();

    public static void main(String[] args) {
        plotsAreNumbered();
        plotsAreRefused();
        ownersThereAreNot();
        ownerFollowsMoves();
        ownerFollowsPartTwo();
        ownerDoesNotFollowCuts();
        ownerThatIsTheOneAlready();
        newLineSettlesOwners();
        laterPlotCountsFromItsOwnYear();
        CHECKS.finish();
    }

    private static void owner(String when, MeanderBench bench, int k, int owner, int side, int changes) {
        CHECKS.same(when + ": owner(" + k + ", 0)", bench.owner(k, 0), owner);
        CHECKS.same(when + ": owner(" + k + ", 1)", bench.owner(k, 1), side);
        CHECKS.same(when + ": owner(" + k + ", 2)", bench.owner(k, 2), changes);
    }

    private static void plotsAreNumbered() {
        MeanderBench bench = new MeanderBench();
        for (int k = 0; k < 20; k++) {
            CHECKS.same("plot " + k, bench.plot(10 * k, k % 2 == 0 ? 255 : 256), k);
            CHECKS.same("count(3)", bench.count(3), k + 1);
        }
        CHECKS.same("plot 20", bench.plot(5, 5), -1);
        CHECKS.same("count(3)", bench.count(3), 20);
        for (int k = 0; k < 20; k++) {
            owner("numbered", bench, k, 1 - k % 2, 1 - k % 2, 0);
        }
    }

    private static void plotsAreRefused() {
        MeanderBench bench = new MeanderBench();
        int[][] wrong = {{-1, 0}, {511, 0}, {0, -1}, {0, 512}, {Integer.MIN_VALUE, 0}, {0, Integer.MAX_VALUE}};
        for (int[] w : wrong) {
            CHECKS.same("plot(" + w[0] + ", " + w[1] + ")", bench.plot(w[0], w[1]), -1);
        }
        CHECKS.same("count(3)", bench.count(3), 0);
        CHECKS.same("the corner", bench.plot(510, 511), 0);
        CHECKS.same("a place twice", bench.plot(510, 511), 1);
    }

    private static void ownersThereAreNot() {
        MeanderBench bench = new MeanderBench();
        CHECKS.noSuch("owner(0, 0) ahead of any", () -> bench.owner(0, 0));
        bench.plot(0, 0);
        int[][] wrong = {{-1, 0}, {1, 0}, {20, 0}, {0, 3}, {0, -1}, {1, 3},
            {Integer.MIN_VALUE, 1}, {Integer.MAX_VALUE, 2}, {0, Integer.MIN_VALUE}, {0, Integer.MAX_VALUE}};
        for (int[] w : wrong) {
            CHECKS.noSuch("owner(" + w[0] + ", " + w[1] + ")", () -> bench.owner(w[0], w[1]));
        }
    }

    private static void ownerFollowsMoves() {
        MeanderBench bench = new MeanderBench();
        bench.set(50, 4, 2, 1, 64, 1);
        Checks.tellLine(bench, 100, 100, 120, 100, 140, 120, 160, 100, 180, 100, 200, 100);
        bench.plot(140, 122);
        bench.plot(140, 125);
        bench.plot(120, 99);
        bench.plot(140, 90);
        owner("year 0", bench, 0, 0, 0, 0);
        owner("year 0", bench, 2, 1, 1, 0);
        // The bend at 140 goes up to 123, then 126; the one at 120 down to 98, then 96.
        bench.go(1);
        owner("year 1", bench, 0, 1, 1, 1);
        owner("year 1", bench, 1, 0, 0, 0);
        owner("year 1", bench, 2, 0, 0, 1);
        bench.go(1);
        owner("year 2", bench, 0, 1, 1, 1);
        owner("year 2", bench, 1, 1, 1, 1);
        owner("year 2", bench, 2, 0, 0, 1);
        owner("year 2", bench, 3, 1, 1, 0);
    }

    private static void ownerFollowsPartTwo() {
        // The middle of 0 0 and 33 1 is 16 0: the line is a little lower then.
        MeanderBench filled = Checks.stillBench(32, 1, 0, 0, 33, 1, 50, 20, 60, 40);
        filled.plot(10, 0);
        owner("long", filled, 0, 1, 1, 0);
        filled.go(1);
        owner("filled", filled, 0, 0, 0, 1);
        MeanderBench thinned = Checks.stillBench(32, 1, 0, 10, 10, 10, 13, 13, 30, 10, 40, 10);
        thinned.plot(13, 12);
        owner("close", thinned, 0, 1, 1, 0);
        thinned.go(1);
        owner("left out", thinned, 0, 0, 0, 1);
    }

    private static void ownerDoesNotFollowCuts() {
        MeanderBench bench = Checks.stillBench(64, 10, 0, 100, 100, 100, 100, 160, 60, 160, 60, 106, 300, 106);
        bench.plot(80, 130);
        bench.go(1);
        CHECKS.same("cut", bench.count(2), 1);
        owner("cut", bench, 0, 1, 0, 0);
        bench.go(20);
        owner("and later", bench, 0, 1, 0, 0);
        bench.plot(80, 130);
        owner("a plot told later", bench, 1, 0, 0, 0);
    }

    private static void ownerThatIsTheOneAlready() {
        // A cut from 50 100 to 59 101 puts the line just above the plot, the middle 54 100 puts it back.
        MeanderBench bench = Checks.stillBench(8, 9, 20, 100, 50, 100, 50, 92, 59, 92, 59, 101, 100, 101);
        bench.plot(54, 100);
        owner("told", bench, 0, 0, 0, 0);
        bench.go(1);
        owner("cut", bench, 0, 0, 1, 0);
        bench.go(1);
        owner("back again", bench, 0, 0, 0, 0);
    }

    private static void newLineSettlesOwners() {
        MeanderBench bench = new MeanderBench();
        int[] bump = {100, 100, 120, 100, 140, 120, 160, 100, 180, 100, 200, 100};
        bench.set(50, 4, 2, 1, 64, 1);
        bench.plot(140, 122);
        bench.plot(120, 99);
        owner("by the first line", bench, 0, 1, 1, 0);
        Checks.tellLine(bench, bump);
        owner("told", bench, 0, 0, 0, 0);
        owner("told", bench, 1, 1, 1, 0);
        bench.go(1);
        owner("gone by", bench, 0, 1, 1, 1);
        owner("gone by", bench, 1, 0, 0, 1);
        Checks.tellLine(bench, bump);
        owner("told again", bench, 0, 0, 0, 0);
        owner("told again", bench, 1, 1, 1, 0);
        Checks.tellLine(bench, 0, 0, 10, 0, 20, 0);
        bench.go(1);
        Checks.tellLine(bench, 0, 0, 10, 0, 20, 0);
        owner("a line that is refused", bench, 0, 1, 1, 1);
    }

    private static void laterPlotCountsFromItsOwnYear() {
        MeanderBench bench = new MeanderBench();
        bench.set(50, 4, 2, 1, 64, 1);
        Checks.tellLine(bench, 100, 100, 120, 100, 140, 120, 160, 100, 180, 100, 200, 100);
        bench.plot(140, 122);
        bench.go(1);
        bench.plot(140, 122);
        owner("the earlier one", bench, 0, 1, 1, 1);
        owner("the later one", bench, 1, 1, 1, 0);
    }
}
