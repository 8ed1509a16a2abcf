import java.util.Arrays;

/** Boundary cases of BANKS, SETTINGS and YEARS, and of part 1 of a YEAR: how points move. */
final class EdgesOfMoves {
    private static final String TERMS = "Terms";
    /** A bend of 40 along y at point 1, and no other. */
    private static final int[] STEP = {100, 140, 120, 100, 140, 100, 160, 100, 180, 100, 200, 100};

    private final Checks checks;

    EdgesOfMoves(Checks checks) {
        this.checks = checks;
    }

    void test(Sentences s) {
        s.holds(TERMS, "8 by 8 CELLS of 64 by 64 (CELL x by 64 and 8 times y by 64, cut)", this::endsOfCells);
        s.holds(TERMS, "each 0 to 9 (5 at first)", this::leastAndMostBanks);
        s.holds(TERMS, "the first and the last one never move.", this::firstAndLastStay);
        s.holds(TERMS, "RATE 0 to 200, WEIGHTS w0, w1, w2 (0 to 9 each), LONG 8 to 64, NEAR 1 to 32", this::endsOfSettings);
        s.holds(TERMS, "(50; 4, 2, 1; 32; 8 at first)", this::settingsAtFirst);
        s.holds("Promise 6: set", "SETTINGS are others: true", this::eachSettingIsTaken);
        s.holds("Promise 6: set", "false, if they are not as told.", this::wrongSettings);
        s.holds(TERMS, "YEAR is 0 when a LINE is told, 999 the last one.", this::firstAndLastYear);
        s.holds("Promise 7: go", "So many YEARS go by (0 to 200; up to 999): YEAR then", this::yearsGoBy);
        s.holds("Promise 7: go", "NONE: another number.", this::wrongYears);
        s.holds(TERMS, "(0 for the first POINT, and where there is none)", this::nothingFeltAheadOfTheFirst);
        s.holds(TERMS, "It moves by FELT times RATE times its CELL's BANK by 10000, cut towards nought, the other way "
                + "(less this)", this::cutTowardsNought);
        s.holds(TERMS, "no more than 8 either way, along x and along y", this::eightAtMost);
        s.holds(TERMS, "and no farther than THE PLAIN reaches.", this::toThePlainsEdge);
        s.holds(TERMS, "All move at once.", this::allAtOnce);
    }

    private static int[] alone(int cell, int bank, int others) {
        int[] banks = new int[64];
        Arrays.fill(banks, others);
        banks[cell] = bank;
        return banks;
    }

    /** The bend of 40 ahead of a point at x, y, felt 5 times, moves it inwards by rate times bank by 50. */
    private static int movedAt(MeanderBench bench, int rate, int x, int y) {
        int inwards = y < 256 ? 1 : -1;
        bench.set(rate, 0, 5, 0, 64, 1);
        Checks.tellLine(bench, x, y + 20 * inwards, x, y + 30 * inwards, x, y, x, y + 60 * inwards);
        bench.go(1);
        return (bench.point(2, 1) - y) * inwards;
    }

    private void endsOfCells() {
        int[] places = {0, 63, 64, 127, 128, 255, 256, 447, 448, 511};
        int[] cells = {0, 0, 1, 1, 2, 3, 4, 6, 7, 7};
        MeanderBench bench = new MeanderBench();
        for (int i = 0; i < places.length; i++) {
            for (int j = 0; j < places.length; j++) {
                int cell = cells[i] + 8 * cells[j];
                String where = "at " + places[i] + ", " + places[j];
                Checks.tellBanks(bench, alone(cell, 7, 0));
                checks.same(where + ", 7 there alone", movedAt(bench, 50, places[i], places[j]), 7);
                Checks.tellBanks(bench, alone(cell, 0, 7));
                checks.same(where + ", 0 there alone", movedAt(bench, 50, places[i], places[j]), 0);
            }
        }
    }

    private void leastAndMostBanks() {
        for (int cell = 0; cell < 64; cell++) {
            int x = cell % 8 * 64 + 32;
            int y = cell / 8 * 64 + 32;
            MeanderBench bench = new MeanderBench();
            checks.same("5 at first in cell " + cell, movedAt(bench, 50, x, y), 5);
            checks.same("0 is taken", Checks.tellBanks(bench, alone(cell, 0, 9)), true);
            checks.same("0 in cell " + cell, movedAt(bench, 200, x, y), 0);
            checks.same("9 is taken", Checks.tellBanks(bench, alone(cell, 9, 0)), true);
            // 9 times 40 by 50 is 7 and a bit, 8 times 40 by 50 only 6 and a bit.
            checks.same("9 in cell " + cell, movedAt(bench, 40, x, y), 7);
            checks.same("10 is not taken", Checks.tellBanks(bench, alone(cell, 10, 0)), false);
        }
    }

    private void firstAndLastStay() {
        MeanderBench bench = new MeanderBench();
        Checks.tellBanks(bench, alone(0, 9, 9));
        bench.set(200, 9, 9, 9, 64, 1);
        int[] square = {100, 100, 100, 160, 160, 160, 160, 100};
        Checks.tellLine(bench, square);
        for (int years : new int[] {1, 1, 20, 200}) {
            bench.go(years);
            int last = bench.count(1) - 1;
            String when = "in year " + bench.count(0);
            checks.same("x of the first one " + when, bench.point(0, 0), 100);
            checks.same("y of the first one " + when, bench.point(0, 1), 100);
            checks.same("x of the last one " + when, bench.point(last, 0), 160);
            checks.same("y of the last one " + when, bench.point(last, 1), 100);
        }
        Checks.tellLine(bench, square);
        bench.go(1);
        // Bends 60 -60 and -60 -60, felt 540 -540 and 0 -1080: 92 168 and 160 168, with one more on each side.
        checks.line("those between them do", bench,
                100, 100, 96, 134, 92, 168, 126, 168, 160, 168, 160, 134, 160, 100);
    }

    private void stepMoves(String when, MeanderBench bench, int first, int second, int third) {
        checks.same(when + ": line()", Checks.tellLine(bench, STEP), true);
        bench.go(1);
        checks.line(when, bench, 100, 140, 120, 100 - first, 140, 100 - second, 160, 100 - third, 180, 100, 200, 100);
    }

    private void endsOfSettings() {
        MeanderBench bench = new MeanderBench();
        checks.same("the least ones", bench.set(0, 0, 0, 0, 8, 1), true);
        checks.same("the greatest ones", bench.set(200, 9, 9, 9, 64, 32), true);
        checks.same("rate 0", bench.set(0, 9, 9, 9, 64, 1), true);
        stepMoves("rate 0", bench, 0, 0, 0);
        // 40 times 200 by 2000 is 4: no less a rate moves by so much.
        checks.same("rate 200", bench.set(200, 1, 1, 1, 64, 1), true);
        stepMoves("rate 200", bench, 4, 4, 4);
        checks.same("rate 199", bench.set(199, 1, 1, 1, 64, 1), true);
        stepMoves("rate 199", bench, 3, 3, 3);
        checks.same("weights 0", bench.set(200, 0, 0, 0, 64, 1), true);
        stepMoves("weights 0", bench, 0, 0, 0);
        // 40 times 9 times 40 by 2000 is 7 and a bit; of 8 it would be 6 and a bit.
        for (int at = 0; at < 3; at++) {
            checks.same("weight 9", bench.set(40, at == 0 ? 9 : 0, at == 1 ? 9 : 0, at == 2 ? 9 : 0, 64, 1), true);
            stepMoves("weight 9 at " + at, bench, at == 0 ? 7 : 0, at == 1 ? 7 : 0, at == 2 ? 7 : 0);
        }
    }

    private void settingsAtFirst() {
        MeanderBench bench = new MeanderBench();
        Checks.tellLine(bench, STEP);
        bench.go(1);
        // 44 is more than 32: one more comes in the middle.
        checks.line("4, 2, 1", bench, 100, 140, 110, 118, 120, 96, 140, 98, 160, 99, 180, 100, 200, 100);
        Checks.tellLine(bench, 100, 179, 120, 100, 140, 100, 160, 100, 180, 100, 200, 100);
        bench.go(1);
        // A bend of 79 felt 4 times: 7 by rate 50, 8 by 51; one of 40 above: 4 by rate 50, 3 by 49.
        checks.line("50", bench, 100, 179, 110, 136, 120, 93, 140, 97, 160, 99, 180, 100, 200, 100);
        Checks.tellLine(bench, 0, 0, 32, 0, 65, 0, 97, 0);
        bench.go(1);
        checks.line("32", bench, 0, 0, 32, 0, 48, 0, 65, 0, 97, 0);
        Checks.tellBanks(bench, new int[64]);
        for (int gap = 8; gap <= 9; gap++) {
            Checks.tellLine(bench, 0, 0, 20, 0, 20, 20, 10, 20, 20 - gap, gap, 0, 30, 0, 50);
            bench.go(1);
            checks.same("8: near by " + gap, bench.count(2), gap == 8 ? 1 : 0);
        }
    }

    private void eachSettingIsTaken() {
        MeanderBench bench = new MeanderBench();
        checks.same("the same ones", bench.set(50, 4, 2, 1, 32, 8), true);
        checks.same("once more", bench.set(50, 4, 2, 1, 64, 1), true);
        stepMoves("50, 4, 2, 1", bench, 4, 2, 1);
        checks.same("others", bench.set(50, 3, 5, 7, 64, 1), true);
        stepMoves("50, 3, 5, 7", bench, 3, 5, 7);
        checks.same("another rate", bench.set(100, 1, 2, 3, 64, 1), true);
        stepMoves("100, 1, 2, 3", bench, 2, 4, 6);
        checks.same("the year stays", bench.count(0), 1);
    }

    private void wrongSettings() {
        int[] least = {0, 0, 0, 0, 8, 1};
        int[] most = {200, 9, 9, 9, 64, 32};
        MeanderBench bench = new MeanderBench();
        bench.set(50, 4, 2, 1, 64, 1);
        for (int at = 0; at < 6; at++) {
            for (int wrong : new int[] {least[at] - 1, most[at] + 1, Integer.MIN_VALUE, Integer.MAX_VALUE}) {
                // Each of the others is another one than those of now, and would be seen.
                int[] s = {150, 1, 1, 5, 8, 32};
                s[at] = wrong;
                checks.same(wrong + " at " + at, bench.set(s[0], s[1], s[2], s[3], s[4], s[5]), false);
                stepMoves("behind " + wrong + " at " + at, bench, 4, 2, 1);
            }
        }
    }

    private void firstAndLastYear() {
        MeanderBench bench = new MeanderBench();
        checks.same("a new object", bench.count(0), 0);
        bench.go(3);
        Checks.tellLine(bench, STEP);
        checks.same("told in year 3", bench.count(0), 0);
        bench.set(0, 0, 0, 0, 64, 1);
        for (int times = 0; times < 5; times++) {
            bench.go(200);
        }
        checks.same("the last one", bench.count(0), 999);
        bench.set(50, 4, 2, 1, 64, 1);
        bench.go(1);
        checks.line("no year goes by behind it", bench, STEP);
        stepMoves("told in year 999", bench, 4, 2, 1);
    }

    private void yearsGoBy() {
        MeanderBench bench = new MeanderBench();
        bench.set(50, 4, 2, 1, 64, 1);
        Checks.tellLine(bench, STEP);
        checks.same("go(0)", bench.go(0), 0);
        checks.line("go(0)", bench, STEP);
        checks.same("go(1)", bench.go(1), 1);
        checks.line("go(1)", bench, 100, 140, 120, 96, 140, 98, 160, 99, 180, 100, 200, 100);
        checks.same("go(200)", bench.go(200), 201);
        for (int due : new int[] {401, 601, 801}) {
            checks.same("go(200)", bench.go(200), due);
        }
        checks.same("go(198)", bench.go(198), 999);
        checks.same("go(0) in the last year", bench.go(0), 999);
        checks.same("go(200) in the last year", bench.go(200), 999);
        Checks.tellLine(bench, STEP);
        for (int times = 0; times < 4; times++) {
            bench.go(200);
        }
        checks.same("800 and 199", bench.go(199), 999);
        Checks.tellLine(bench, STEP);
        for (int times = 0; times < 4; times++) {
            bench.go(200);
        }
        checks.same("800 and 200", bench.go(200), 999);
        sameYearsByOnes();
    }

    private void sameYearsByOnes() {
        MeanderBench together = new MeanderBench();
        MeanderBench byOnes = new MeanderBench();
        Checks.tellLine(together, STEP);
        Checks.tellLine(byOnes, STEP);
        together.go(40);
        for (int year = 1; year <= 40; year++) {
            checks.same("go(1)", byOnes.go(1), year);
        }
        int[] xy = new int[2 * together.count(1)];
        for (int k = 0; k < xy.length; k++) {
            xy[k] = together.point(k / 2, k % 2);
        }
        checks.line("40 years by ones", byOnes, xy);
    }

    private void wrongYears() {
        MeanderBench bench = new MeanderBench();
        Checks.tellLine(bench, STEP);
        for (int year : new int[] {0, 998, 999}) {
            if (year > 0) {
                bench.set(0, 0, 0, 0, 64, 1);
                for (int times = 0; times < 5; times++) {
                    bench.go(Math.min(200, year - bench.count(0)));
                }
                bench.set(50, 4, 2, 1, 64, 1);
            }
            for (int years : new int[] {-1, 201, -200, 999, Integer.MIN_VALUE, Integer.MAX_VALUE}) {
                checks.same("go(" + years + ") in year " + year, bench.go(years), -1);
                checks.same("the year stays", bench.count(0), year);
            }
            checks.line("the line stays", bench, STEP);
        }
    }

    private void nothingFeltAheadOfTheFirst() {
        int[] zigzag = {100, 100, 120, 160, 140, 100, 160, 160, 180, 100};
        MeanderBench bench = new MeanderBench();
        // Bends 0 (the first), -120, 120, -120: each that is felt moves by 8.
        bench.set(200, 0, 9, 0, 64, 1);
        Checks.tellLine(bench, zigzag);
        bench.go(1);
        checks.line("w1 alone", bench, 100, 100, 120, 160, 140, 108, 160, 152, 180, 100);
        bench.set(200, 0, 0, 9, 64, 1);
        Checks.tellLine(bench, zigzag);
        bench.go(1);
        // 168 is 68 more than 100: one more comes in the middle.
        checks.line("w2 alone", bench, 100, 100, 120, 160, 140, 100, 150, 134, 160, 168, 170, 134, 180, 100);
        // Point 1 and point 2 feel their own bend, and no less than this.
        bench.set(10, 9, 9, 9, 64, 1);
        Checks.tellLine(bench, zigzag);
        bench.go(1);
        checks.line("all of them", bench,
                100, 100, 110, 132, 120, 165, 130, 132, 140, 100, 150, 132, 160, 165, 170, 132, 180, 100);
    }

    /** Point 1, at 220 220, has a bend of bx, by; the others have none. */
    private static int[] bent(int bx, int by) {
        return new int[] {200, 200, 220, 220, 240 + bx, 240 + by, 260 + 2 * bx, 260 + 2 * by};
    }

    private void bendMoves(String when, MeanderBench bench, int bend, int due) {
        for (int sign = -1; sign <= 1; sign += 2) {
            Checks.tellLine(bench, bent(sign * bend, 0));
            bench.go(1);
            checks.same(when + ", bend " + sign * bend + " along x", bench.point(1, 0), 220 - sign * due);
            checks.same(when + ", y then", bench.point(1, 1), 220);
            Checks.tellLine(bench, bent(0, sign * bend));
            bench.go(1);
            checks.same(when + ", bend " + sign * bend + " along y", bench.point(1, 1), 220 - sign * due);
            checks.same(when + ", x then", bench.point(1, 0), 220);
        }
        Checks.tellLine(bench, bent(bend, -bend));
        bench.go(1);
        checks.same(when + ", x of both", bench.point(1, 0), 220 - due);
        checks.same(when + ", y of both", bench.point(1, 1), 220 + due);
    }

    private void cutTowardsNought() {
        MeanderBench bench = new MeanderBench();
        bench.set(50, 4, 0, 0, 64, 1);
        bendMoves("nothing", bench, 0, 0);
        bendMoves("9000", bench, 9, 0);
        bendMoves("10000", bench, 10, 1);
        bendMoves("19000", bench, 19, 1);
        bendMoves("20000", bench, 20, 2);
        Checks.tellBanks(bench, alone(0, 9, 9));
        bench.set(101, 1, 0, 0, 64, 1);
        bendMoves("9999", bench, 11, 0);
        bendMoves("10908", bench, 12, 1);
        bendMoves("19998", bench, 22, 1);
        bendMoves("20907", bench, 23, 2);
    }

    private void eightAtMost() {
        MeanderBench bench = new MeanderBench();
        bench.set(50, 4, 0, 0, 64, 1);
        bendMoves("7 and a bit", bench, 79, 7);
        bendMoves("8", bench, 80, 8);
        bendMoves("9 less a bit", bench, 89, 8);
        bendMoves("9", bench, 90, 8);
        bench.set(200, 9, 0, 0, 64, 1);
        bendMoves("90", bench, 100, 8);
        Checks.tellBanks(bench, alone(0, 9, 9));
        bendMoves("162", bench, 100, 8);
    }

    private void toThePlainsEdge() {
        MeanderBench bench = new MeanderBench();
        bench.set(50, 4, 0, 0, 64, 1);
        int[][] fromTo = {{0, 0}, {1, 0}, {7, 0}, {8, 0}, {9, 1},
            {511, 511}, {510, 511}, {504, 511}, {503, 511}, {502, 510}};
        for (int[] ft : fromTo) {
            int inwards = ft[0] < 256 ? 40 : -40;
            int beside = ft[0] + inwards;
            Checks.tellLine(bench, 100, beside, 120, ft[0], 140, beside, 160, beside + inwards);
            bench.go(1);
            checks.same("y from " + ft[0], bench.point(1, 1), ft[1]);
            checks.same("x then", bench.point(1, 0), 120);
            Checks.tellLine(bench, beside, 100, ft[0], 120, beside, 140, beside + inwards, 160);
            bench.go(1);
            checks.same("x from " + ft[0], bench.point(1, 0), ft[1]);
            checks.same("y then", bench.point(1, 1), 120);
        }
        // The greatest bends along x that there are, all outwards; 20 and 471 go down and up by 8.
        Checks.tellBanks(bench, alone(0, 9, 9));
        bench.set(200, 9, 0, 9, 64, 1);
        Checks.tellLine(bench, 0, 0, 511, 511, 0, 20, 511, 471, 0, 40);
        bench.go(1);
        checks.line("from edge to edge", bench,
                0, 0, 255, 255, 511, 511, 255, 261, 0, 12, 255, 245, 511, 479, 255, 259, 0, 40);
    }

    private void allAtOnce() {
        MeanderBench bench = new MeanderBench();
        // Point 1 moves by 8; if point 2 felt where it is then, it would have a bend and move.
        bench.set(200, 4, 0, 0, 64, 1);
        stepMoves("own bends", bench, 8, 0, 0);
        // 40 by 20 is 2; by where point 1 is then, it would be 56 less 4 times 8, by 20.
        bench.set(100, 4, 1, 0, 64, 1);
        stepMoves("bends ahead", bench, 8, 2, 0);
        // The bank is that of the cell where the point was: 128 100 is in cell 10, 120 100 in cell 9.
        bench.set(50, 4, 0, 0, 64, 1);
        Checks.tellBanks(bench, alone(10, 5, 0));
        Checks.tellLine(bench, 168, 140, 128, 100, 168, 140, 208, 180);
        bench.go(1);
        checks.same("x by the cell of before", bench.point(1, 0), 120);
        checks.same("y by the cell of before", bench.point(1, 1), 92);
    }
}
