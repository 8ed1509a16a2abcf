/** Promise 10 and part 3 of a YEAR: necks that are cut, and loops. */
public final class CutTest {
    private static final Checks CHECKS = new Checks();

    public static void main(String[] args) {
        nearBothWays();
        areaIsTheSameBothWaysRound();
        threePiecesAtLeast();
        greatestJ();
        leastI();
        againAndAgain();
        fourPointsAreKept();
        loopsOfManyYears();
        loopsThereAreNot();
        CHECKS.finish();
    }

    private static void loop(String when, MeanderBench bench, int k, int year, int points, int twice) {
        CHECKS.same(when + ": year of loop " + k, bench.loop(k, 0), year);
        CHECKS.same(when + ": points of loop " + k, bench.loop(k, 1), points);
        CHECKS.same(when + ": twice the area of loop " + k, bench.loop(k, 2), twice);
    }

    private static MeanderBench neck(int x, int y, int near) {
        return Checks.stillBench(64, near, 0, 100, 50, 100, 100, 100, 100, 160, x, 160, x, y, 120, y, 180, y);
    }

    private static void nearBothWays() {
        MeanderBench bench = neck(60, 110, 10);
        CHECKS.same("no loop when the line is told", bench.count(2), 0);
        bench.go(1);
        loop("10 is near", bench, 0, 1, 3, 4900);
        CHECKS.line("10 is near", bench, 0, 100, 50, 100, 60, 110, 120, 110, 180, 110);
        int[][] far = {{61, 110, 10}, {60, 111, 10}, {60, 110, 9}};
        for (int[] f : far) {
            bench = neck(f[0], f[1], f[2]);
            bench.go(3);
            CHECKS.same("not near: " + f[0] + ", " + f[1], bench.count(2), 0);
        }
        for (int gap = 32; gap <= 33; gap++) {
            int y = 100 + gap;
            bench = Checks.stillBench(64, 32,
                    0, 60, 50, 100, 110, 100, 110, 160, 110, 220, 50, 220, 50, 170, 50, y, 0, y + 50);
            bench.go(1);
            CHECKS.same("y differ by " + gap, bench.count(1), gap == 32 ? 4 : 9);
            bench = Checks.stillBench(64, 32,
                    60, 0, 100, 50, 100, 110, 160, 110, 220, 110, 220, 50, 170, 50, y, 50, y + 50, 0);
            bench.go(1);
            CHECKS.same("x differ by " + gap, bench.count(1), gap == 32 ? 4 : 9);
        }
    }

    private static void areaIsTheSameBothWaysRound() {
        MeanderBench bench = Checks.stillBench(64, 10,
                0, 200, 50, 200, 100, 200, 100, 140, 60, 140, 60, 190, 120, 190, 180, 190);
        bench.go(1);
        loop("the other way round", bench, 0, 1, 3, 4900);
        bench = Checks.stillBench(64, 10,
                180, 110, 120, 110, 60, 110, 60, 160, 100, 160, 100, 100, 50, 100, 0, 100);
        bench.go(1);
        loop("from the other end", bench, 0, 1, 3, 4900);
    }

    private static void threePiecesAtLeast() {
        MeanderBench bench = Checks.stillBench(64, 10, 0, 0, 50, 0, 55, 30, 50, 5, 100, 5, 150, 5);
        bench.go(1);
        CHECKS.same("two pieces are no loop", bench.count(2), 0);
        bench = Checks.stillBench(64, 10, 0, 0, 50, 0, 55, 30, 45, 30, 50, 5, 100, 5, 150, 5);
        bench.go(1);
        // 50 0, 55 30, 45 30, 50 5.
        loop("three pieces are one", bench, 0, 1, 2, 275);
    }

    private static void greatestJ() {
        MeanderBench bench = Checks.stillBench(64, 10,
                0, 0, 50, 0, 80, 0, 80, 40, 50, 8, 20, 40, 45, 5, 45, 60, 100, 60, 160, 60);
        bench.go(1);
        CHECKS.same("one loop", bench.count(2), 1);
        CHECKS.same("up to the greatest j", bench.loop(0, 1), 4);
        CHECKS.line("greatest j", bench, 0, 0, 50, 0, 45, 5, 45, 60, 100, 60, 160, 60);
    }

    private static void leastI() {
        MeanderBench bench = Checks.stillBench(64, 10,
                0, 0, 50, 0, 100, 0, 100, 50, 55, 5, 80, 60, 105, 5, 150, 5, 200, 5);
        bench.go(1);
        CHECKS.same("one loop", bench.count(2), 1);
        CHECKS.line("least i", bench, 0, 0, 50, 0, 55, 5, 80, 60, 105, 5, 150, 5, 200, 5);
    }

    private static void againAndAgain() {
        MeanderBench bench = Checks.stillBench(64, 10,
                0, 0, 50, 0, 80, 40, 20, 40, 50, 5, 100, 5, 130, 65, 70, 65, 100, 15, 160, 15);
        bench.go(1);
        CHECKS.same("two loops in one year", bench.count(2), 2);
        // 50 0, 80 40, 20 40, 50 5, and 100 5, 130 65, 70 65, 100 15.
        loop("again", bench, 0, 1, 2, 2250);
        loop("again", bench, 1, 1, 2, 3300);
        CHECKS.line("again", bench, 0, 0, 50, 0, 50, 5, 100, 5, 100, 15, 160, 15);
        // The end of the first loop is where the second one begins.
        bench = Checks.stillBench(64, 10,
                0, 0, 50, 0, 80, 40, 20, 40, 50, 10, 80, 60, 20, 60, 50, 20, 100, 20, 160, 20);
        bench.go(1);
        CHECKS.same("two loops one behind another", bench.count(2), 2);
        CHECKS.line("one behind another", bench, 0, 0, 50, 0, 50, 10, 50, 20, 100, 20, 160, 20);
    }

    private static void fourPointsAreKept() {
        // 0 and 5 are near, but two points would be kept; 0 and 3 are near, and four are.
        MeanderBench bench = Checks.stillBench(64, 10, 100, 100, 150, 100, 150, 150, 105, 105, 100, 150, 103, 100);
        bench.go(1);
        CHECKS.same("one loop", bench.count(2), 1);
        CHECKS.line("four are kept", bench, 100, 100, 105, 105, 100, 150, 103, 100);
        bench = Checks.stillBench(64, 10, 100, 100, 150, 100, 150, 150, 105, 105);
        bench.go(5);
        CHECKS.same("no cut of four", bench.count(2), 0);
        CHECKS.same("four stay", bench.count(1), 4);
        bench = Checks.stillBench(64, 10, 100, 100, 150, 100, 150, 150, 105, 105, 150, 130);
        bench.go(1);
        CHECKS.same("no cut of five that keeps three", bench.count(1), 5);
        bench = Checks.stillBench(64, 10, 100, 100, 150, 100, 150, 150, 105, 105, 150, 130, 150, 180);
        bench.go(1);
        CHECKS.same("a cut of six that keeps four", bench.count(1), 4);
    }

    private static void loopsOfManyYears() {
        MeanderBench bench = new MeanderBench();
        bench.set(0, 0, 0, 0, 8, 32);
        bench.go(3);
        CHECKS.same("33 points, 16 apart", bench.count(1), 33);
        CHECKS.same("no loop up to year 3", bench.count(2), 0);
        bench.go(1);
        // 0, 8, .. 240, 256, .. : seven cuts of 32 that leave out three, one of 224 to 256 that leaves out two.
        CHECKS.same("eight loops in year 4", bench.count(2), 8);
        for (int k = 0; k < 7; k++) {
            loop("a straight line", bench, k, 4, 3, 0);
        }
        loop("a straight line", bench, 7, 4, 2, 0);
        CHECKS.same("48 less 23", bench.count(1), 25);
        int years = 0;
        while (bench.count(2) < 30 && years < 200) {
            bench.go(1);
            years++;
        }
        CHECKS.same("30 loops", bench.count(2), 30);
        int year = bench.loop(29, 0);
        bench.go(100);
        CHECKS.same("30 loops at most", bench.count(2), 30);
        CHECKS.same("the earlier ones stay", bench.loop(0, 0), 4);
        CHECKS.same("the 30th stays", bench.loop(29, 0), year);
        CHECKS.noSuch("loop(30, 0)", () -> bench.loop(30, 0));
        // Later cuts go on, though they are not noted: else the line would fill up to 48 and stay so.
        CHECKS.same("cuts go on", bench.count(1) < 48, true);
    }

    private static void loopsThereAreNot() {
        MeanderBench bench = neck(60, 110, 10);
        CHECKS.noSuch("loop(0, 0) ahead of any", () -> bench.loop(0, 0));
        bench.go(1);
        int[][] wrong = {{-1, 0}, {1, 0}, {30, 0}, {0, 3}, {0, -1}, {1, 3},
            {Integer.MIN_VALUE, 0}, {Integer.MAX_VALUE, 0}, {0, Integer.MIN_VALUE}, {0, Integer.MAX_VALUE}};
        for (int[] w : wrong) {
            CHECKS.noSuch("loop(" + w[0] + ", " + w[1] + ")", () -> bench.loop(w[0], w[1]));
        }
    }
}
