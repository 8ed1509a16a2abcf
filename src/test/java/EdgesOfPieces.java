/** Boundary cases of part 2 of a YEAR: points left out that are close, points put between that are far. */
final class EdgesOfPieces {
    private static final String TERMS = "Terms";

    private final Checks checks;

    EdgesOfPieces(Checks checks) {
        this.checks = checks;
    }

    void test(Sentences s) {
        s.holds(TERMS, "of which x and y both differ by less than 4", this::closeByLessThanFour);
        s.holds(TERMS, "POINTS, but the last one,", this::lastOneStays);
        s.holds(TERMS, "from the POINT ahead that is kept are left out, downstream", this::closeToOneThatIsKept);
        s.holds(TERMS, "as long as there are more than 4.", this::fourStay);
        s.holds(TERMS, "between POINTS next to each other of which x or y differ by more than LONG", this::longerThanLong);
        s.holds(TERMS, "one more comes in the middle (each coordinate: the sum by 2, cut)", this::middleIsCut);
        s.holds(TERMS, "downstream, one between any two", this::oneBetweenAnyTwo);
        s.holds(TERMS, "as long as there are fewer than 48.", this::fortyEightAtMost);
    }

    private void closeByLessThanFour() {
        int[][] out = {{3, 3}, {-3, -3}, {3, -3}, {-3, 3}, {0, 0}, {3, 0}, {0, -3}, {1, 2}};
        for (int[] d : out) {
            MeanderBench bench = Checks.stillBench(64, 1, 50, 50, 100, 100, 100 + d[0], 100 + d[1], 150, 120, 200, 150);
            bench.go(1);
            checks.line("close by " + d[0] + ", " + d[1], bench, 50, 50, 100, 100, 150, 120, 200, 150);
        }
        int[][] kept = {{4, 0}, {-4, 0}, {0, 4}, {0, -4}, {4, 3}, {-3, -4}, {4, 4}, {3, 60}, {-50, 0}};
        for (int[] d : kept) {
            int[] xy = {50, 50, 100, 100, 100 + d[0], 100 + d[1], 150, 120, 200, 150};
            MeanderBench bench = Checks.stillBench(64, 1, xy);
            bench.go(1);
            checks.same("not close by " + d[0] + ", " + d[1], bench.point(2, 0), xy[4]);
            checks.same("not close by " + d[0] + ", " + d[1], bench.point(2, 1), xy[5]);
        }
    }

    private void lastOneStays() {
        for (int d = 0; d <= 3; d++) {
            int[] xy = {0, 0, 20, 0, 40, 0, 60, 0, 60 + d, d};
            MeanderBench bench = Checks.stillBench(64, 1, xy);
            bench.go(2);
            checks.line("close by " + d, bench, xy);
        }
        // The one ahead of the last is close to the one ahead of it, and goes; the last is close to that one, and stays.
        MeanderBench bench = Checks.stillBench(64, 1, 0, 0, 20, 0, 40, 0, 60, 0, 61, 0, 62, 0);
        bench.go(1);
        checks.line("both close", bench, 0, 0, 20, 0, 40, 0, 60, 0, 62, 0);
    }

    private void closeToOneThatIsKept() {
        MeanderBench bench = Checks.stillBench(64, 1, 0, 0, 3, 0, 6, 0, 9, 0, 12, 0, 30, 0, 60, 0, 90, 0);
        bench.go(1);
        checks.line("3 apart each", bench, 0, 0, 6, 0, 12, 0, 30, 0, 60, 0, 90, 0);
        bench = Checks.stillBench(64, 1, 5, 5, 5, 5, 30, 5, 60, 5, 90, 5);
        bench.go(1);
        checks.line("the first one stays", bench, 5, 5, 30, 5, 60, 5, 90, 5);
        // 2 0 is close to the first one, which is not the one ahead of it.
        bench = Checks.stillBench(64, 1, 0, 0, 40, 0, 2, 0, 40, 10, 80, 10);
        bench.go(1);
        checks.line("close to one farther ahead", bench, 0, 0, 40, 0, 2, 0, 40, 10, 80, 10);
    }

    private static int[] onePlace(int points) {
        int[] xy = new int[2 * points];
        java.util.Arrays.fill(xy, 7);
        return xy;
    }

    private void fourStay() {
        for (int points : new int[] {4, 5, 6, 47, 48}) {
            MeanderBench bench = Checks.stillBench(64, 1, onePlace(points));
            bench.go(1);
            checks.line(points + " in one place", bench, onePlace(4));
            bench.go(1);
            checks.line(points + " in one place, a year later", bench, onePlace(4));
        }
        MeanderBench bench = Checks.stillBench(64, 1, 0, 0, 20, 0, 22, 0, 60, 0);
        bench.go(1);
        checks.line("none of four", bench, 0, 0, 20, 0, 22, 0, 60, 0);
        bench = Checks.stillBench(64, 1, 0, 0, 2, 0, 20, 0, 22, 0, 60, 0);
        bench.go(1);
        checks.line("the one farthest ahead of five", bench, 0, 0, 20, 0, 22, 0, 60, 0);
        bench = Checks.stillBench(64, 1, 0, 0, 2, 0, 20, 0, 22, 0, 40, 0, 42, 0, 80, 0);
        bench.go(1);
        checks.line("all three of seven", bench, 0, 0, 20, 0, 40, 0, 80, 0);
    }

    private void longerThanLong() {
        for (int longest : new int[] {8, 9, 32, 63, 64}) {
            int[][] ways = {{1, 0}, {-1, 0}, {0, 1}, {0, -1}, {1, 1}, {-1, 1}};
            for (int[] way : ways) {
                for (int more = 0; more <= 1; more++) {
                    int x = 200 + way[0] * (longest + more);
                    int y = 200 + way[1] * (longest + more);
                    MeanderBench bench = Checks.stillBench(longest, 1, 200, 200, x, y, x + 5, y + 5, x + 10, y + 10);
                    bench.go(1);
                    String when = "long " + longest + ", from 200 200 to " + x + " " + y;
                    checks.same(when, bench.count(1), 4 + more);
                    checks.same(when, bench.point(1 + more, 0), x);
                }
            }
        }
    }

    private void middleIsCut() {
        int[][] middles = {{0, 0, 9, 9, 4, 4}, {0, 0, 10, 11, 5, 5}, {1, 0, 10, 3, 5, 1}, {511, 511, 500, 502, 505, 506},
            {9, 3, 0, 0, 4, 1}, {511, 510, 502, 501, 506, 505}, {510, 1, 511, 10, 510, 5}, {0, 511, 0, 502, 0, 506}};
        for (int[] m : middles) {
            int inwards = m[2] < 256 ? 5 : -5;
            int down = m[3] < 256 ? 5 : -5;
            MeanderBench bench = Checks.stillBench(8, 1,
                    m[0], m[1], m[2], m[3], m[2] + inwards, m[3] + down, m[2] + 2 * inwards, m[3] + 2 * down);
            bench.go(1);
            String when = "between " + m[0] + " " + m[1] + " and " + m[2] + " " + m[3];
            checks.same(when + ": points", bench.count(1), 5);
            checks.same(when + ": x", bench.point(1, 0), m[4]);
            checks.same(when + ": y", bench.point(1, 1), m[5]);
        }
    }

    private void oneBetweenAnyTwo() {
        MeanderBench bench = Checks.stillBench(8, 1, 0, 0, 511, 511, 0, 500, 511, 20);
        bench.go(1);
        checks.line("over the whole plain", bench, 0, 0, 255, 255, 511, 511, 255, 505, 0, 500, 255, 260, 511, 20);
        bench = Checks.stillBench(8, 1, 0, 0, 20, 0, 28, 0, 50, 0);
        bench.go(1);
        // 10 is more than 8 still: the next ones come a year later.
        checks.line("year 1", bench, 0, 0, 10, 0, 20, 0, 28, 0, 39, 0, 50, 0);
        bench.go(1);
        checks.line("year 2", bench, 0, 0, 5, 0, 10, 0, 15, 0, 20, 0, 28, 0, 33, 0, 39, 0, 44, 0, 50, 0);
        bench.go(1);
        checks.same("year 3", bench.count(1), 10);
    }

    /** Two pieces of 100, and from there pieces of 4. */
    private static int[] longThenShort(int points) {
        int[] xy = new int[2 * points];
        for (int k = 1; k < points; k++) {
            xy[2 * k] = k < 3 ? 100 * k : 200 + 4 * (k - 2);
        }
        return xy;
    }

    private void fortyEightAtMost() {
        MeanderBench bench = Checks.stillBench(64, 1, longThenShort(46));
        bench.go(1);
        checks.same("46 and two", bench.count(1), 48);
        checks.same("the second one", bench.point(3, 0), 150);
        bench = Checks.stillBench(64, 1, longThenShort(47));
        bench.go(1);
        checks.same("47 and one", bench.count(1), 48);
        checks.same("the one farther upstream", bench.point(1, 0), 50);
        checks.same("no other", bench.point(3, 0), 200);
        checks.same("the last one stays", bench.point(47, 0), 376);
        bench = Checks.stillBench(64, 1, longThenShort(48));
        bench.go(1);
        checks.line("48 and none", bench, longThenShort(48));
        // The one that is left out makes room for one.
        int[] xy = longThenShort(48);
        xy[92] = xy[90] + 3;
        bench = Checks.stillBench(64, 1, xy);
        bench.go(1);
        checks.same("47 and one", bench.count(1), 48);
        checks.same("the one that came", bench.point(1, 0), 50);
        checks.same("the one that stayed ahead of the one left out", bench.point(46, 0), xy[90]);
    }
}
