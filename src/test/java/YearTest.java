/** Promises 7 and 8: go and point, with parts 1 and 2 of a YEAR. */
public final class YearTest {
    private static final Checks CHECKS = new Checks();

    public static void main(String[] args) {
        years();
        pointsThereAreNot();
        feltBends();
        movesAreCutTowardsNought();
        movesAlongX();
        movesEndAtThePlainsEdge();
        closePointsAreLeftOut();
        fourPointsAreKept();
        longPiecesAreFilled();
        fillingEndsAt48();
        leavingOutComesFirst();
        CHECKS.finish();
    }

    private static void years() {
        MeanderBench bench = new MeanderBench();
        CHECKS.same("go(0)", bench.go(0), 0);
        CHECKS.same("go(-1)", bench.go(-1), -1);
        CHECKS.same("go(201)", bench.go(201), -1);
        CHECKS.same("go(MIN)", bench.go(Integer.MIN_VALUE), -1);
        CHECKS.same("go(MAX)", bench.go(Integer.MAX_VALUE), -1);
        CHECKS.same("the year behind these", bench.count(0), 0);
        CHECKS.line("go(0) and those refused move nothing", bench, 0, 256, 128, 256, 256, 256, 384, 256, 511, 256);
        CHECKS.same("go(1)", bench.go(1), 1);
        CHECKS.same("go(200)", bench.go(200), 201);
        for (int due = 401; due <= 801; due += 200) {
            CHECKS.same("go(200)", bench.go(200), due);
        }
        CHECKS.same("go(197)", bench.go(197), 998);
        CHECKS.same("go(200) at 998", bench.go(200), 999);
        CHECKS.same("go(0) at 999", bench.go(0), 999);
        CHECKS.same("go(1) at 999", bench.go(1), 999);
        CHECKS.same("go(201) at 999", bench.go(201), -1);
        Checks.tellLine(bench, 0, 0, 200, 0, 210, 0, 220, 0);
        CHECKS.same("go(2) on a new line", bench.go(2), 2);
        nothingMovesBehindTheLastYear();
    }

    private static void nothingMovesBehindTheLastYear() {
        MeanderBench bench = Checks.stillBench(64, 1, 100, 100, 120, 100, 140, 120, 160, 100, 180, 100, 200, 100);
        for (int times = 0; times < 5; times++) {
            bench.go(200);
        }
        bench.set(50, 4, 2, 1, 64, 1);
        bench.go(10);
        CHECKS.same("point(2, 1) at 999", bench.point(2, 1), 120);
    }

    private static void pointsThereAreNot() {
        MeanderBench bench = new MeanderBench();
        CHECKS.same("point(0, 0)", bench.point(0, 0), 0);
        CHECKS.same("point(0, 1)", bench.point(0, 1), 256);
        CHECKS.same("point(4, 0)", bench.point(4, 0), 511);
        int[][] wrong = {{-1, 0}, {5, 0}, {47, 0}, {48, 1}, {0, 2}, {0, -1}, {5, 2},
            {Integer.MIN_VALUE, 1}, {Integer.MAX_VALUE, 1}, {1, Integer.MIN_VALUE}, {1, Integer.MAX_VALUE}};
        for (int[] w : wrong) {
            CHECKS.noSuch("point(" + w[0] + ", " + w[1] + ")", () -> bench.point(w[0], w[1]));
        }
        // Rows that had more points once must not show them.
        Checks.tellLine(bench, 0, 0, 10, 0, 20, 0, 30, 0);
        CHECKS.noSuch("point(4, 0) of four", () -> bench.point(4, 0));
    }

    private static void feltBends() {
        MeanderBench bench = new MeanderBench();
        bench.set(50, 4, 2, 1, 64, 1);
        Checks.tellLine(bench, 100, 100, 120, 100, 140, 120, 160, 100, 180, 100, 200, 100);
        // Bends 20, -40, 20, 0; felt 80, -120, 20, 0; moved by these by 40, cut.
        bench.go(1);
        CHECKS.line("year 1", bench, 100, 100, 120, 98, 140, 123, 160, 100, 180, 100, 200, 100);
        // Bends 27, -48, 23, 0; felt 108, -138, 23, -2.
        bench.go(1);
        CHECKS.line("year 2", bench, 100, 100, 120, 96, 140, 126, 160, 100, 180, 100, 200, 100);
    }

    private static void movesAreCutTowardsNought() {
        MeanderBench bench = new MeanderBench();
        bench.set(50, 1, 0, 0, 64, 1);
        Checks.tellLine(bench, 100, 100, 120, 130, 140, 100, 160, 130, 180, 100);
        // Bends -60, 60, -60: one and a half each.
        bench.go(1);
        CHECKS.line("one and a half", bench, 100, 100, 120, 131, 140, 99, 160, 131, 180, 100);
        int[] nines = new int[64];
        java.util.Arrays.fill(nines, 9);
        Checks.tellBanks(bench, nines);
        bench.set(101, 1, 0, 0, 64, 1);
        Checks.tellLine(bench, 100, 100, 120, 100, 140, 111, 160, 111, 180, 100);
        // Bends 11, -11, -11: 9999 by 10000 each.
        bench.go(1);
        CHECKS.line("just less than one", bench, 100, 100, 120, 100, 140, 111, 160, 111, 180, 100);
    }

    private static void movesAlongX() {
        MeanderBench bench = new MeanderBench();
        bench.set(50, 4, 0, 0, 64, 1);
        Checks.tellLine(bench, 100, 100, 110, 120, 160, 140, 170, 160, 180, 180);
        bench.go(1);
        CHECKS.line("along x", bench, 100, 100, 106, 120, 164, 140, 170, 160, 180, 180);
        bench.set(200, 9, 9, 9, 64, 1);
        Checks.tellLine(bench, 100, 100, 110, 120, 160, 140, 170, 160, 180, 180);
        // Bends 40, -40, 0: felt 360, 0, 0 times 1 by 10.
        bench.go(1);
        CHECKS.line("no more than 8", bench, 100, 100, 102, 120, 160, 140, 170, 160, 180, 180);
    }

    private static void movesEndAtThePlainsEdge() {
        MeanderBench bench = new MeanderBench();
        bench.set(50, 4, 2, 1, 64, 1);
        Checks.tellLine(bench, 100, 40, 120, 3, 140, 40, 160, 40);
        bench.go(1);
        CHECKS.line("y 0", bench, 100, 40, 120, 0, 140, 40, 160, 40);
        Checks.tellLine(bench, 100, 470, 120, 508, 140, 470, 160, 470);
        bench.go(1);
        CHECKS.line("y 511", bench, 100, 470, 120, 511, 140, 470, 160, 470);
        Checks.tellLine(bench, 40, 100, 3, 120, 40, 140, 40, 160);
        bench.go(1);
        CHECKS.line("x 0", bench, 40, 100, 0, 120, 40, 140, 40, 160);
        Checks.tellLine(bench, 470, 100, 508, 120, 470, 140, 470, 160);
        bench.go(1);
        CHECKS.line("x 511", bench, 470, 100, 511, 120, 470, 140, 470, 160);
    }

    private static void closePointsAreLeftOut() {
        // 13 3 is close to 10 0, 16 0 to 13 3 alone, which is not kept; 4 is not close, by x or by y.
        MeanderBench bench = Checks.stillBench(64, 1, 0, 0, 10, 0, 13, 3, 16, 0, 20, 0, 22, 4, 60, 0);
        bench.go(1);
        CHECKS.line("close ones", bench, 0, 0, 10, 0, 16, 0, 20, 0, 22, 4, 60, 0);
        bench.go(1);
        CHECKS.line("none any more", bench, 0, 0, 10, 0, 16, 0, 20, 0, 22, 4, 60, 0);
        bench = Checks.stillBench(64, 1, 0, 0, 10, 0, 20, 0, 30, 0, 57, 0, 60, 0);
        bench.go(1);
        CHECKS.line("close to the last one", bench, 0, 0, 10, 0, 20, 0, 30, 0, 57, 0, 60, 0);
        bench = Checks.stillBench(64, 1, 3, 3, 0, 0, 20, 0, 30, 0, 40, 0);
        bench.go(1);
        CHECKS.line("close to the first one", bench, 3, 3, 20, 0, 30, 0, 40, 0);
    }

    private static void fourPointsAreKept() {
        MeanderBench bench = Checks.stillBench(64, 1, 0, 0, 2, 0, 20, 0, 22, 0, 60, 0);
        bench.go(1);
        CHECKS.line("one of five", bench, 0, 0, 20, 0, 22, 0, 60, 0);
        bench = Checks.stillBench(64, 1, 7, 7, 7, 7, 7, 7, 7, 7);
        bench.go(9);
        CHECKS.line("none of four", bench, 7, 7, 7, 7, 7, 7, 7, 7);
        bench = Checks.stillBench(64, 1, 0, 50, 10, 50, 12, 51, 60, 50, 61, 52, 62, 52, 100, 50);
        bench.go(1);
        CHECKS.line("three of seven", bench, 0, 50, 10, 50, 60, 50, 100, 50);
    }

    private static void longPiecesAreFilled() {
        MeanderBench bench = Checks.stillBench(32, 1, 0, 0, 33, 0, 65, 0, 65, 33, 65, 65);
        bench.go(1);
        CHECKS.line("33 is long, 32 is not", bench, 0, 0, 16, 0, 33, 0, 65, 0, 65, 16, 65, 33, 65, 65);
        bench = Checks.stillBench(64, 1, 0, 10, 201, 5, 210, 0, 220, 0);
        bench.go(1);
        CHECKS.line("one between any two", bench, 0, 10, 100, 7, 201, 5, 210, 0, 220, 0);
        bench.go(1);
        CHECKS.line("the next year", bench, 0, 10, 50, 8, 100, 7, 150, 6, 201, 5, 210, 0, 220, 0);
        bench = Checks.stillBench(8, 1, 220, 0, 211, 0, 203, 0, 195, 0);
        bench.go(1);
        CHECKS.line("to the left", bench, 220, 0, 215, 0, 211, 0, 203, 0, 195, 0);
    }

    private static int[] longThenShort(int points) {
        int[] xy = new int[2 * points];
        xy[2] = 100;
        xy[4] = 200;
        for (int k = 3; k < points; k++) {
            xy[2 * k] = 200 + 4 * (k - 2);
        }
        return xy;
    }

    private static void fillingEndsAt48() {
        MeanderBench bench = Checks.stillBench(64, 1, longThenShort(46));
        bench.go(1);
        CHECKS.same("two more", bench.count(1), 48);
        CHECKS.same("the second one", bench.point(3, 0), 150);
        bench = Checks.stillBench(64, 1, longThenShort(47));
        bench.go(1);
        CHECKS.same("one more", bench.count(1), 48);
        CHECKS.same("the one farther upstream", bench.point(1, 0), 50);
        CHECKS.same("none between 100", bench.point(2, 0), 100);
        CHECKS.same("and 200", bench.point(3, 0), 200);
        bench = Checks.stillBench(64, 1, longThenShort(48));
        bench.go(1);
        CHECKS.line("none more", bench, longThenShort(48));
    }

    private static void leavingOutComesFirst() {
        int[] xy = longThenShort(48);
        xy[92] = xy[90] + 3;
        MeanderBench bench = Checks.stillBench(64, 1, xy);
        bench.go(1);
        CHECKS.same("one out, one in", bench.count(1), 48);
        CHECKS.same("the one that came", bench.point(1, 0), 50);
        CHECKS.same("the one that stayed", bench.point(46, 0), xy[90]);
        // All move before any is left out: the move of 8 parts the two that were close.
        MeanderBench mover = new MeanderBench();
        mover.set(100, 9, 0, 0, 64, 1);
        Checks.tellLine(mover, 100, 100, 100, 102, 140, 102, 160, 100, 180, 100);
        // Bend of point 1: 40, -2; felt 360, -18; 18 by 20 is nought.
        mover.go(1);
        CHECKS.line("moved apart", mover, 100, 100, 92, 102, 148, 102, 160, 100, 180, 100);
    }
}
