/** Boundary cases of part 3 of a YEAR, of LOOPS, and of promise 10. */
final class EdgesOfCuts {
    private static final String TERMS = "Terms";
    /** Places of a box no wider than LONG, none of them near another one. */
    private static final int[] BOX = {
        100, 100, 150, 110, 120, 150, 160, 160, 105, 130, 140, 125,
        130, 105, 155, 135, 110, 155, 125, 135, 145, 150, 115, 115,
    };

    private final Checks checks;

    EdgesOfCuts(Checks checks) {
        this.checks = checks;
    }

    void test(Sentences s) {
        s.holds(TERMS, "of two POINTS i and j, j at least i + 3", this::threePiecesAtLeast);
        s.holds(TERMS, "of which x and y both differ by NEAR at most", this::nearAtMost);
        s.holds(TERMS, "the POINTS between them are a LOOP, and are left out of THE LINE, if 4 POINTS at least are kept",
                this::fourAreKept);
        s.holds(TERMS, "the one with the least i, of these the greatest j", this::leastAndGreatest);
        s.holds(TERMS, "again and again, till there is none.", this::againAndAgain);
        s.holds(TERMS, "LOOPS (30 at most; later ones are not noted)", this::thirtyLoops);
        s.holds(TERMS, "the YEAR, how many POINTS are left out", this::yearsAndPoints);
        s.holds(TERMS, "twice the AREA that POINTS i to j go around (the ends joined).", this::areas);
        String loop = "Promise 10: loop";
        s.holds(loop, "Of LOOP k: 0 YEAR, 1 POINTS left out, 2 twice its AREA.", this::firstAndLastLoop);
        s.holds(loop, "NoSuchElementException: there is none such, or another what.", this::wrongLoops);
    }

    /** So many places of the box; each pair says that its second point stands 1 beside its first one. */
    private static int[] box(int points, int... pairs) {
        int[] xy = java.util.Arrays.copyOf(BOX, 2 * points);
        for (int k = 0; k < pairs.length; k += 2) {
            xy[2 * pairs[k + 1]] = xy[2 * pairs[k]] + 1;
            xy[2 * pairs[k + 1] + 1] = xy[2 * pairs[k] + 1] - 1;
        }
        return xy;
    }

    /** The points of the box that are kept. */
    private void kept(String when, int[] xy, int loops, int... kept) {
        MeanderBench bench = Checks.stillBench(64, 1, xy);
        checks.same(when + ": loops when told", bench.count(2), 0);
        bench.go(1);
        int[] due = new int[2 * kept.length];
        for (int k = 0; k < kept.length; k++) {
            due[2 * k] = xy[2 * kept[k]];
            due[2 * k + 1] = xy[2 * kept[k] + 1];
        }
        checks.line(when, bench, due);
        checks.same(when + ": loops", bench.count(2), loops);
    }

    private void threePiecesAtLeast() {
        kept("i + 2", box(8, 2, 4), 0, 0, 1, 2, 3, 4, 5, 6, 7);
        kept("i + 3", box(8, 2, 5), 1, 0, 1, 2, 5, 6, 7);
        kept("i + 4", box(8, 2, 6), 1, 0, 1, 2, 6, 7);
        kept("the first one and i + 2", box(8, 0, 2), 0, 0, 1, 2, 3, 4, 5, 6, 7);
        kept("the first one and i + 3", box(8, 0, 3), 1, 0, 3, 4, 5, 6, 7);
        kept("i + 2 and the last one", box(8, 5, 7), 0, 0, 1, 2, 3, 4, 5, 6, 7);
        kept("i + 3 and the last one", box(8, 4, 7), 1, 0, 1, 2, 3, 4, 7);
    }

    /** Point 4 stands dx, dy beside point 1 and no two others are near, whatever NEAR is. */
    private void neck(int near, int dx, int dy, boolean cut) {
        int x = 200 + dx;
        int y = 200 + dy;
        int endX = x + 64 * Integer.signum(dx);
        int endY = y + 64 * Integer.signum(dy);
        MeanderBench bench = Checks.stillBench(64, near, 140, 140, 200, 200, 255, 232, 225, 231, x, y, endX, endY);
        bench.go(1);
        String when = "near " + near + ", apart by " + dx + ", " + dy;
        if (cut) {
            checks.line(when, bench, 140, 140, 200, 200, x, y, endX, endY);
        } else {
            checks.line(when, bench, 140, 140, 200, 200, 255, 232, 225, 231, x, y, endX, endY);
        }
        checks.same(when + ": loops", bench.count(2), cut ? 1 : 0);
    }

    private void nearAtMost() {
        for (int near : new int[] {1, 2, 10, 31, 32}) {
            neck(near, near, 0, true);
            neck(near, -near, 0, true);
            neck(near, 0, near, true);
            neck(near, 0, -near, true);
            neck(near, near, near, true);
            neck(near, near, -near, true);
            neck(near, near + 1, 0, false);
            neck(near, -near - 1, 0, false);
            neck(near, 0, near + 1, false);
            neck(near, 0, -near - 1, false);
            neck(near, near, near + 1, false);
            neck(near, near + 1, -near, false);
        }
        MeanderBench bench = Checks.stillBench(64, 1, 140, 140, 200, 200, 255, 232, 225, 231, 200, 200, 260, 200);
        bench.go(1);
        checks.line("in one place", bench, 140, 140, 200, 200, 200, 200, 260, 200);
    }

    private void fourAreKept() {
        kept("4 points, 0 and 3", box(4, 0, 3), 0, 0, 1, 2, 3);
        kept("5 points, 0 and 3", box(5, 0, 3), 0, 0, 1, 2, 3, 4);
        kept("5 points, 1 and 4", box(5, 1, 4), 0, 0, 1, 2, 3, 4);
        kept("5 points, 0 and 4", box(5, 0, 4), 0, 0, 1, 2, 3, 4);
        kept("6 points, 0 and 3", box(6, 0, 3), 1, 0, 3, 4, 5);
        kept("6 points, 1 and 4", box(6, 1, 4), 1, 0, 1, 4, 5);
        kept("6 points, 2 and 5", box(6, 2, 5), 1, 0, 1, 2, 5);
        kept("6 points, 0 and 4", box(6, 0, 4), 0, 0, 1, 2, 3, 4, 5);
        kept("6 points, 1 and 5", box(6, 1, 5), 0, 0, 1, 2, 3, 4, 5);
        kept("6 points, 0 and 5", box(6, 0, 5), 0, 0, 1, 2, 3, 4, 5);
        kept("7 points, 0 and 4", box(7, 0, 4), 1, 0, 4, 5, 6);
        kept("7 points, 0 and 5", box(7, 0, 5), 0, 0, 1, 2, 3, 4, 5, 6);
        kept("12 points, 1 and 10", box(12, 1, 10), 1, 0, 1, 10, 11);
        kept("12 points, 0 and 9", box(12, 0, 9), 1, 0, 9, 10, 11);
        kept("12 points, 2 and 11", box(12, 2, 11), 1, 0, 1, 2, 11);
        kept("12 points, 0 and 10", box(12, 0, 10), 0, 0, 1, 2, 3, 4, 5, 6, 7, 8, 9, 10, 11);
        kept("12 points, 0 and 11", box(12, 0, 11), 0, 0, 1, 2, 3, 4, 5, 6, 7, 8, 9, 10, 11);
    }

    private void leastAndGreatest() {
        kept("1 and 4, 1 and 7", box(11, 1, 4, 1, 7), 1, 0, 1, 7, 8, 9, 10);
        kept("1 and 5, 2 and 9", box(11, 1, 5, 2, 9), 1, 0, 1, 5, 6, 7, 8, 9, 10);
        kept("2 and 9 alone", box(11, 2, 9), 1, 0, 1, 2, 9, 10);
        kept("0 and 3, 2 and 10", box(12, 0, 3, 2, 10), 1, 0, 3, 4, 5, 6, 7, 8, 9, 10, 11);
        // The greatest j would keep two points and is no cut; the next one is.
        kept("0 and 3, 0 and 7", box(8, 0, 3, 0, 7), 1, 0, 3, 4, 5, 6, 7);
    }

    private void againAndAgain() {
        kept("two apart", box(12, 1, 4, 6, 10), 2, 0, 1, 4, 5, 6, 10, 11);
        kept("one behind another", box(12, 1, 4, 4, 8), 2, 0, 1, 4, 8, 9, 10, 11);
        kept("three", box(12, 0, 3, 3, 6, 7, 10), 3, 0, 3, 6, 7, 10, 11);
        kept("the second one keeps four", box(8, 0, 3, 4, 7), 2, 0, 3, 4, 7);
        kept("the second one would keep three", box(7, 0, 3, 3, 6), 1, 0, 3, 4, 5, 6);
        kept("the second one's i is left out by the first", box(9, 1, 4, 3, 6), 1, 0, 1, 4, 5, 6, 7, 8);
        MeanderBench bench = Checks.stillBench(64, 1, box(12, 1, 4, 6, 10));
        bench.go(1);
        checks.same("the first loop's points", bench.loop(0, 1), 2);
        checks.same("the second loop's points", bench.loop(1, 1), 3);
        bench.go(9);
        checks.same("none in later years", bench.count(2), 2);
    }

    /**
     * Year 1: 0 10 20 30 .. 60 is cut to 0 30 40 50 60. Year 2: two cuts, to 0 15 45 60. From year 3 on it is
     * 0 7 15 30 45 52 60 cut to 0 30 45 52 60, and 0 15 30 37 45 52 60 cut to 0 15 45 52 60, in turns.
     */
    private static MeanderBench benchBehind(int years) {
        MeanderBench bench = Checks.stillBench(8, 32, 0, 0, 20, 0, 40, 0, 60, 0);
        bench.go(years);
        return bench;
    }

    private void thirtyLoops() {
        MeanderBench bench = benchBehind(0);
        int[] loops = {0, 1, 3, 4, 5, 6};
        for (int year = 0; year < loops.length; year++) {
            checks.same("loops in year " + year, bench.count(2), loops[year]);
            bench.go(1);
        }
        checks.same("29 loops in year 28", benchBehind(28).count(2), 29);
        checks.same("30 loops in year 29", benchBehind(29).count(2), 30);
        MeanderBench full = benchBehind(29);
        checks.line("year 29", full, 0, 0, 30, 0, 45, 0, 52, 0, 60, 0);
        for (int year = 30; year <= 33; year++) {
            full.go(1);
            checks.same("30 loops in year " + year, full.count(2), 30);
            checks.same("the last one is of year 29", full.loop(29, 0), 29);
            checks.same("the first one is of year 1", full.loop(0, 0), 1);
            // Cuts that are not noted are cuts.
            if (year % 2 == 0) {
                checks.line("year " + year, full, 0, 0, 15, 0, 45, 0, 52, 0, 60, 0);
            } else {
                checks.line("year " + year, full, 0, 0, 30, 0, 45, 0, 52, 0, 60, 0);
            }
        }
        Checks.tellLine(full, 0, 0, 20, 0, 40, 0, 60, 0);
        full.go(1);
        checks.same("a new line has room for loops again", full.count(2), 1);
        checks.same("its year", full.loop(0, 0), 1);
        checks.noSuch("loop(1, 0)", () -> full.loop(1, 0));
    }

    private void yearsAndPoints() {
        MeanderBench bench = benchBehind(4);
        int[] years = {1, 2, 2, 3, 4};
        int[] points = {2, 3, 2, 2, 2};
        for (int k = 0; k < 5; k++) {
            checks.same("year of loop " + k, bench.loop(k, 0), years[k]);
            checks.same("points of loop " + k, bench.loop(k, 1), points[k]);
        }
        MeanderBench late = Checks.stillBench(64, 1, 140, 140, 200, 200, 255, 232, 225, 231, 202, 200, 260, 200);
        for (int times = 0; times < 5; times++) {
            late.go(times < 4 ? 200 : 198);
        }
        checks.same("no loop up to year 998", late.count(2), 0);
        late.set(0, 0, 0, 0, 64, 2);
        late.go(200);
        checks.same("a loop of the last year", late.loop(0, 0), 999);
        most();
    }

    /** 48 points, of which point 1 and point 46 are near: no loop can have more points. */
    private void most() {
        int[] xy = new int[96];
        for (int k = 0; k < 48; k++) {
            xy[2 * k] = k < 24 ? 20 * k : 20 * (47 - k);
            xy[2 * k + 1] = k < 24 ? 100 : 110;
        }
        xy[0] = 60;
        xy[1] = 60;
        xy[94] = 60;
        xy[95] = 150;
        MeanderBench bench = Checks.stillBench(64, 10, xy);
        bench.go(1);
        checks.same("points of the greatest loop", bench.loop(0, 1), 44);
        // From 20 100 to 460 100, to 460 110 and back to 20 110.
        checks.same("twice its area", bench.loop(0, 2), 8800);
        checks.line("what is kept", bench, 60, 60, 20, 100, 20, 110, 60, 150);
    }

    private void areas() {
        MeanderBench straight = benchBehind(1);
        checks.same("none of a straight loop", straight.loop(0, 2), 0);
        int[] plain = {30, 40, 0, 10, 0, 511, 511, 511, 511, 0, 0, 0, 40, 5};
        MeanderBench whole = Checks.stillBench(64, 10, plain);
        whole.go(1);
        checks.same("one loop", whole.count(2), 1);
        checks.same("the whole plain", whole.loop(0, 2), 2 * 511 * 511);
        int[] back = new int[plain.length];
        for (int k = 0; k < plain.length; k += 2) {
            back[k] = plain[plain.length - 2 - k];
            back[k + 1] = plain[plain.length - 1 - k];
        }
        whole = Checks.stillBench(64, 10, back);
        whole.go(1);
        checks.same("the whole plain, the other way round", whole.loop(0, 2), 2 * 511 * 511);
        // 50 0, 55 30, 45 30, 50 5: 300 less 25.
        MeanderBench odd = Checks.stillBench(64, 10, 0, 0, 50, 0, 55, 30, 45, 30, 50, 5, 100, 5, 150, 5);
        odd.go(1);
        checks.same("twice an area of a half", odd.loop(0, 2), 275);
        // 50 0, 55 30, 45 30, 51 5: 1500 and 300 less 1305 less 250, the last of these by the ends.
        odd = Checks.stillBench(64, 10, 0, 0, 50, 0, 55, 30, 45, 30, 51, 5, 100, 5, 150, 5);
        odd.go(1);
        checks.same("the ends joined", odd.loop(0, 2), 245);
    }

    private void firstAndLastLoop() {
        MeanderBench bench = benchBehind(40);
        checks.same("loop(0, 0)", bench.loop(0, 0), 1);
        checks.same("loop(0, 1)", bench.loop(0, 1), 2);
        checks.same("loop(0, 2)", bench.loop(0, 2), 0);
        checks.same("loop(29, 0)", bench.loop(29, 0), 29);
        checks.same("loop(29, 1)", bench.loop(29, 1), 2);
        checks.same("loop(29, 2)", bench.loop(29, 2), 0);
    }

    private void wrongLoops() {
        int[] extremes = {Integer.MIN_VALUE, -2, -1, 30, 31, Integer.MAX_VALUE};
        for (int years : new int[] {0, 1, 40}) {
            MeanderBench bench = benchBehind(years);
            int loops = bench.count(2);
            for (int what = 0; what <= 2; what++) {
                int w = what;
                checks.noSuch("loop(" + loops + ", " + w + ") of " + loops, () -> bench.loop(loops, w));
                for (int k : extremes) {
                    checks.noSuch("loop(" + k + ", " + w + ") of " + loops, () -> bench.loop(k, w));
                }
            }
            for (int what : new int[] {-1, 3, 4, Integer.MIN_VALUE, Integer.MAX_VALUE}) {
                checks.noSuch("loop(0, " + what + ") of " + loops, () -> bench.loop(0, what));
            }
        }
    }
}
