/** Boundary cases of SIDE and PLOTS, and of promises 11 to 13. */
final class EdgesOfPlots {
    private static final String TERMS = "Terms";
    private static final int[] BUMP = {100, 100, 120, 100, 140, 120, 160, 100, 180, 100, 200, 100};

    private final Checks checks;

    EdgesOfPlots(Checks checks) {
        this.checks = checks;
    }

    void test(Sentences s) {
        s.holds(TERMS, "how many pieces of THE LINE between POINTS next to each other are above it: odd: 1, even: 0.",
                this::oddAndEven);
        s.holds(TERMS, "if x is not below the lesser one of their xs, and below the greater one", this::endsOfPieces);
        s.holds(TERMS, "and the piece has at x a greater y.", this::greaterYs);
        s.holds("Promise 11: side", "SIDE of a place", this::sidesAtThePlainsEdges);
        s.holds("Promise 11: side", "NONE: x is not 0 to 510, or y not 0 to 511.", this::noSide);
        s.holds(TERMS, "PLOTS, 20 at most", this::twentyPlots);
        s.holds(TERMS, "a place, and its OWNER: at first its SIDE.", this::ownerAtFirst);
        s.holds("Promise 12: plot", "One more PLOT: its number", this::plotNumbers);
        s.holds("Promise 12: plot", "NONE: there are 20, or as side().", this::noPlot);
        s.holds(TERMS, "Behind 2. of a YEAR: if its SIDE is another one than ahead of the YEAR, its OWNER is its SIDE now.",
                this::behindPartTwo);
        s.holds(TERMS, "(What changes by 3. changes no OWNER.)", this::cutsChangeNoOwner);
        String owner = "Promise 13: owner";
        s.holds(owner, "Of PLOT k: 0 OWNER, 1 SIDE now", this::firstAndLastPlot);
        s.holds(owner, "2 in how many YEARS its OWNER became another one", this::yearsOfChange);
        s.holds(owner, "(since THE LINE was told, or the PLOT).", this::sinceTold);
        s.holds(owner, "NoSuchElementException: there is none such, or another what.", this::wrongOwners);
    }

    private static MeanderBench told(int... xy) {
        return Checks.stillBench(64, 1, xy);
    }

    private void sides(String when, MeanderBench bench, int due, int... xy) {
        for (int k = 0; k < xy.length; k += 2) {
            checks.same(when + ": side(" + xy[k] + ", " + xy[k + 1] + ")", bench.side(xy[k], xy[k + 1]), due);
        }
    }

    private void owner(String when, MeanderBench bench, int owner, int side, int changes) {
        checks.same(when + ": owner(0, 0)", bench.owner(0, 0), owner);
        checks.same(when + ": owner(0, 1)", bench.owner(0, 1), side);
        checks.same(when + ": owner(0, 2)", bench.owner(0, 2), changes);
    }

    private void oddAndEven() {
        // From side to side, 10 higher each time: from below, all pieces are above.
        for (int points : new int[] {4, 5, 47, 48}) {
            int[] xy = new int[2 * points];
            for (int k = 0; k < points; k++) {
                xy[2 * k] = k % 2 == 0 ? 100 : 200;
                xy[2 * k + 1] = 10 * (k + 1);
            }
            MeanderBench bench = told(xy);
            sides(points - 1 + " pieces", bench, (points - 1) % 2, 150, 0, 100, 9, 199, 5);
            sides("one piece less", bench, points % 2, 150, 15);
            sides("one piece", bench, 1, 150, 10 * points - 6);
            sides("no piece", bench, 0, 150, 10 * points, 150, 511, 99, 0, 200, 0);
        }
    }

    private void endsOfPieces() {
        int[][] lines = {{10, 100, 20, 100, 30, 100, 40, 100}, {40, 100, 30, 100, 20, 100, 10, 100}};
        for (int[] line : lines) {
            MeanderBench bench = told(line);
            // At 20 and 30 one piece ends and another one begins: one alone is above.
            sides("a row", bench, 1, 10, 99, 19, 99, 20, 99, 29, 99, 30, 99, 39, 99);
            sides("beside the row", bench, 0, 9, 99, 40, 99, 0, 0, 510, 0);
        }
        // Peaks at 20: both pieces of the first end at it, both of the second begin at it.
        sides("both end", told(10, 100, 20, 100, 10, 110, 5, 300), 0, 20, 0, 19, 0, 10, 0);
        sides("both end: the last one is above", told(10, 100, 20, 100, 10, 110, 5, 300), 1, 9, 0, 5, 0);
        sides("both begin", told(30, 100, 20, 100, 30, 110, 40, 300), 0, 20, 0, 29, 0, 19, 0);
        // Upright pieces, and pieces of one place.
        sides("upright", told(50, 100, 50, 200, 50, 300, 50, 400), 0, 50, 0, 49, 0, 51, 0, 50, 250);
        sides("one place", told(50, 100, 50, 100, 50, 100, 50, 100), 0, 50, 0, 49, 0, 51, 0, 50, 100);
        // One wide: it is above its lesser x alone.
        sides("one wide", told(50, 100, 51, 100, 51, 100, 51, 100), 1, 50, 99);
        sides("one wide", told(50, 100, 51, 100, 51, 100, 51, 100), 0, 49, 99, 51, 99, 50, 100);
    }

    private void greaterYs() {
        int[][] lines = {{0, 0, 3, 1, 6, 0, 9, 3}, {9, 3, 6, 0, 3, 1, 0, 0}};
        for (int[] line : lines) {
            MeanderBench bench = told(line);
            // Heights 0, 1/3, 2/3, 1, 2/3, 1/3, 0, 1, 2.
            sides("a greater y", bench, 1, 1, 0, 2, 0, 3, 0, 4, 0, 5, 0, 7, 0, 8, 0, 8, 1);
            sides("the same y, or a lesser one", bench, 0, 0, 0, 1, 1, 2, 1, 3, 1, 4, 1, 6, 0, 7, 1, 8, 2);
        }
        // 510 by 511 for each step: a bit below x itself all the way.
        MeanderBench slant = told(0, 0, 511, 510, 511, 511, 511, 511);
        for (int x = 1; x <= 510; x++) {
            sides("a bit below x", slant, 1, x, x - 1);
            sides("a bit below x", slant, 0, x, x);
        }
        slant = told(511, 0, 0, 511, 0, 511, 0, 511);
        for (int x = 0; x <= 510; x++) {
            sides("511 less x", slant, 1, x, 510 - x);
            sides("511 less x", slant, 0, x, 511 - x);
        }
    }

    private void sidesAtThePlainsEdges() {
        MeanderBench bench = new MeanderBench();
        sides("below", bench, 1, 0, 0, 510, 0, 0, 255, 510, 255);
        sides("above", bench, 0, 0, 256, 510, 256, 0, 511, 510, 511);
        MeanderBench high = told(0, 511, 200, 511, 400, 511, 511, 511);
        sides("the highest line", high, 1, 0, 510, 510, 510, 510, 0);
        sides("the highest line", high, 0, 0, 511, 510, 511);
        MeanderBench low = told(0, 0, 200, 0, 400, 0, 511, 0);
        sides("the lowest line", low, 0, 0, 0, 510, 0, 510, 511);
    }

    private static final int[] BEYOND = {-1, 0, 511, 0, 512, 0, 0, -1, 0, 512, 510, 512, 511, 511, -1, -1, 511, 512,
        Integer.MIN_VALUE, 5, Integer.MAX_VALUE, 5, 5, Integer.MIN_VALUE, 5, Integer.MAX_VALUE};

    private void noSide() {
        sides("beyond", new MeanderBench(), -1, BEYOND);
        sides("beyond", told(0, 511, 511, 511, 0, 511, 511, 511), -1, BEYOND);
    }

    private void twentyPlots() {
        MeanderBench bench = new MeanderBench();
        for (int k = 0; k < 20; k++) {
            checks.same("plot", bench.plot(k, 0), k);
        }
        checks.same("the 21st", bench.plot(0, 300), -1);
        checks.same("count(3)", bench.count(3), 20);
        checks.same("the 20th stays", bench.owner(19, 0), 1);
        checks.noSuch("owner(20, 0)", () -> bench.owner(20, 0));
        Checks.tellLine(bench, BUMP);
        checks.same("a new line makes no room", bench.plot(0, 0), -1);
    }

    private void ownerAtFirst() {
        MeanderBench bench = new MeanderBench();
        bench.plot(510, 255);
        bench.plot(510, 256);
        checks.same("below", bench.owner(0, 0), 1);
        checks.same("on it", bench.owner(1, 0), 0);
        // By the line of the time when the plot is told, not of the time when the line was.
        MeanderBench moved = new MeanderBench();
        moved.set(50, 4, 2, 1, 64, 1);
        Checks.tellLine(moved, BUMP);
        moved.go(1);
        moved.plot(140, 122);
        owner("told in year 1", moved, 1, 1, 0);
    }

    private void plotNumbers() {
        MeanderBench bench = new MeanderBench();
        checks.same("the first one", bench.plot(0, 0), 0);
        checks.same("the same place again", bench.plot(0, 0), 1);
        checks.same("one that is refused", bench.plot(511, 0), -1);
        checks.same("the next one", bench.plot(510, 511), 2);
        checks.same("count(3)", bench.count(3), 3);
    }

    private void noPlot() {
        MeanderBench bench = new MeanderBench();
        for (int k = 0; k < BEYOND.length; k += 2) {
            checks.same("plot(" + BEYOND[k] + ", " + BEYOND[k + 1] + ")", bench.plot(BEYOND[k], BEYOND[k + 1]), -1);
            checks.same("count(3)", bench.count(3), 0);
        }
        for (int k = 0; k < 20; k++) {
            bench.plot(5, 5);
        }
        for (int times = 0; times < 3; times++) {
            checks.same("there are 20", bench.plot(5, 5), -1);
            checks.same("there are 20, and beyond", bench.plot(511, 512), -1);
        }
        checks.same("count(3)", bench.count(3), 20);
    }

    private void behindPartTwo() {
        MeanderBench moved = new MeanderBench();
        moved.set(50, 4, 2, 1, 64, 1);
        Checks.tellLine(moved, BUMP);
        // The bend at 140 goes from 120 to 123.
        moved.plot(140, 123);
        moved.plot(140, 122);
        moved.plot(140, 119);
        moved.go(1);
        owner("on the line then: not below it", moved, 0, 0, 0);
        checks.same("just below it then", moved.owner(1, 0), 1);
        checks.same("below it before and then: owner", moved.owner(2, 0), 1);
        checks.same("below it before and then: changes", moved.owner(2, 2), 0);
        // The middle of 0 0 and 33 1 is 16 0, so that 10 0 is below the line before and on it then.
        MeanderBench filled = Checks.stillBench(32, 1, 0, 0, 33, 1, 50, 20, 60, 40);
        filled.plot(10, 0);
        filled.go(1);
        owner("a point that came", filled, 0, 0, 1);
        MeanderBench thinned = told(0, 10, 10, 10, 13, 13, 30, 10, 40, 10);
        thinned.plot(13, 12);
        thinned.go(1);
        owner("a point that was left out", thinned, 0, 0, 1);
        partTwoAndBackByACut();
    }

    /** Point 13 13 is left out, so that 13 12 is not below the line; the cut from 8 20 to 17 20 is above it again. */
    private void partTwoAndBackByACut() {
        MeanderBench bench = Checks.stillBench(64, 9, 0, 60, 8, 20, 10, 10, 13, 13, 30, 10, 17, 20, 60, 60);
        bench.plot(13, 12);
        owner("told", bench, 1, 1, 0);
        bench.go(1);
        checks.line("cut", bench, 0, 60, 8, 20, 17, 20, 60, 60);
        owner("there and back in one year", bench, 0, 1, 1);
        bench.go(1);
        owner("a year later", bench, 0, 1, 1);
    }

    private void cutsChangeNoOwner() {
        MeanderBench bench = Checks.stillBench(64, 10, 0, 100, 100, 100, 100, 160, 60, 160, 60, 106, 300, 106);
        bench.plot(80, 130);
        owner("told", bench, 1, 1, 0);
        bench.go(1);
        checks.same("cut", bench.count(2), 1);
        owner("cut", bench, 1, 0, 0);
        bench.go(200);
        owner("200 years later", bench, 1, 0, 0);
    }

    private void firstAndLastPlot() {
        MeanderBench bench = Checks.stillBench(64, 10, 0, 100, 100, 100, 100, 160, 60, 160, 60, 106, 300, 106);
        for (int k = 0; k < 20; k++) {
            bench.plot(80, k < 10 ? 130 : 102);
        }
        // Behind the cut 80 130 is above the line and 80 102 below it; the owners are those of before.
        bench.go(1);
        for (int k = 0; k < 20; k++) {
            checks.same("owner(" + k + ", 0)", bench.owner(k, 0), k < 10 ? 1 : 0);
            checks.same("owner(" + k + ", 1)", bench.owner(k, 1), k < 10 ? 0 : 1);
        }
    }

    private void yearsOfChange() {
        MeanderBench bench = new MeanderBench();
        bench.set(50, 4, 2, 1, 64, 1);
        Checks.tellLine(bench, BUMP);
        bench.plot(140, 122);
        owner("none yet", bench, 0, 0, 0);
        bench.go(1);
        owner("123", bench, 1, 1, 1);
        // The bend of 27 ahead, felt 9 times: by 8 back to 115.
        bench.set(100, 0, 9, 0, 64, 1);
        bench.go(1);
        owner("115", bench, 0, 0, 2);
        // Its own bend of -24, felt 9 times: by 8 to 123.
        bench.set(200, 9, 0, 0, 64, 1);
        bench.go(1);
        owner("123 again", bench, 1, 1, 3);
        bench.set(0, 0, 0, 0, 64, 1);
        bench.go(200);
        owner("years without a change", bench, 1, 1, 3);
        ownerIsTheOneAlready();
    }

    /** The cut from 50 100 to 59 101 is above 54 100, the middle 54 100 that comes a year later is not. */
    private void ownerIsTheOneAlready() {
        MeanderBench bench = Checks.stillBench(8, 9, 20, 100, 50, 100, 50, 92, 59, 92, 59, 101, 100, 101);
        bench.plot(54, 100);
        bench.go(1);
        owner("cut", bench, 0, 1, 0);
        bench.go(1);
        owner("the side comes back to the owner", bench, 0, 0, 0);
    }

    private void sinceTold() {
        MeanderBench bench = new MeanderBench();
        bench.set(50, 4, 2, 1, 64, 1);
        Checks.tellLine(bench, BUMP);
        bench.plot(140, 122);
        bench.go(1);
        bench.plot(140, 122);
        checks.same("since the line", bench.owner(0, 2), 1);
        checks.same("since the plot", bench.owner(1, 2), 0);
        Checks.tellLine(bench, 0, 0, 10, 0, 20, 0);
        checks.same("a line that is refused", bench.owner(0, 2), 1);
        Checks.tellLine(bench, BUMP);
        owner("told again", bench, 0, 0, 0);
        bench.go(1);
        owner("a year later", bench, 1, 1, 1);
        checks.same("the later plot too", bench.owner(1, 2), 1);
    }

    private void wrongOwners() {
        for (int plots : new int[] {0, 1, 20}) {
            MeanderBench bench = new MeanderBench();
            for (int k = 0; k < plots; k++) {
                bench.plot(k, k);
            }
            for (int what = 0; what <= 2; what++) {
                int w = what;
                for (int k : new int[] {plots, -1, 20, 21, Integer.MIN_VALUE, Integer.MAX_VALUE}) {
                    checks.noSuch("owner(" + k + ", " + w + ") of " + plots, () -> bench.owner(k, w));
                }
            }
            for (int what : new int[] {-1, 3, 4, Integer.MIN_VALUE, Integer.MAX_VALUE}) {
                checks.noSuch("owner(0, " + what + ") of " + plots, () -> bench.owner(0, what));
            }
            if (plots > 0) {
                checks.same("the last one", bench.owner(plots - 1, 1), 1);
            }
        }
    }
}
