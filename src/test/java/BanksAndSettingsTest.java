import java.util.Arrays;

/** Promises 5 and 6: banks and settings, by what they do to the river. */
public final class BanksAndSettingsTest {
    private static final Checks CHECKS = new Checks();
    /** With 5 everywhere and the first settings its points 1, 2, 3, 4 get y 98, 123, 100, 100. */
    private static final int[] BUMP = {100, 100, 120, 100, 140, 120, 160, 100, 180, 100, 200, 100};

    public static void main(String[] args) {
        banksAreRefused();
        eachCellHasItsByte();
        cellsEnd();
        settingsAtFirst();
        settingsAreTaken();
        settingsAreRefused();
        CHECKS.finish();
    }

    private static int[] all(int bank) {
        int[] banks = new int[64];
        Arrays.fill(banks, bank);
        return banks;
    }

    private static int[] alone(int cell, int bank) {
        int[] banks = new int[64];
        banks[cell] = bank;
        return banks;
    }

    private static void afterYear(String when, MeanderBench bench, int... ys) {
        CHECKS.same(when + ": line()", Checks.tellLine(bench, BUMP), true);
        bench.go(1);
        int[] xy = BUMP.clone();
        for (int k = 0; k < 4; k++) {
            xy[2 * k + 3] = ys[k];
        }
        CHECKS.line(when, bench, xy);
    }

    private static void banksAreRefused() {
        MeanderBench bench = new MeanderBench();
        afterYear("banks at first", bench, 98, 123, 100, 100);
        CHECKS.same("banks() of nothing", bench.banks(), false);
        CHECKS.same("63 bytes", Checks.tellBanks(bench, new int[63]), false);
        CHECKS.same("65 bytes", Checks.tellBanks(bench, new int[65]), false);
        for (int cell = 0; cell < 64; cell++) {
            CHECKS.same("10 in cell " + cell, Checks.tellBanks(bench, alone(cell, 10)), false);
            CHECKS.same("255 in cell " + cell, Checks.tellBanks(bench, alone(cell, 255)), false);
            CHECKS.same("the tape is empty", bench.count(6), 0);
        }
        afterYear("banks that are refused change nothing", bench, 98, 123, 100, 100);
        CHECKS.same("banks of 9", Checks.tellBanks(bench, all(9)), true);
        CHECKS.same("the tape is empty", bench.count(6), 0);
        // 80 times 450 by 10000 is 3, -120 times 450 by 10000 is -5.
        afterYear("banks of 9", bench, 97, 125, 100, 100);
        CHECKS.same("banks of 0", Checks.tellBanks(bench, all(0)), true);
        afterYear("banks of 0", bench, 100, 120, 100, 100);
        bench.go(3);
        Checks.tellBanks(bench, all(1));
        CHECKS.same("the year stays", bench.count(0), 4);
    }

    private static void eachCellHasItsByte() {
        for (int cell = 0; cell < 64; cell++) {
            int x = 64 * (cell % 8) + 30;
            int y = 64 * (cell / 8) + 20;
            int[] peak = {x - 10, y, x, y + 20, x + 10, y, x + 20, y};
            for (int other = 0; other < 64; other++) {
                MeanderBench bench = new MeanderBench();
                Checks.tellBanks(bench, alone(other, 5));
                Checks.tellLine(bench, peak);
                bench.go(1);
                CHECKS.same("bank " + other + ", a point in cell " + cell, bench.point(1, 1), y + (other == cell ? 24 : 20));
            }
        }
    }

    private static void cellsEnd() {
        for (int x = 126; x <= 129; x++) {
            for (int y = 126; y <= 129; y++) {
                MeanderBench bench = new MeanderBench();
                Checks.tellBanks(bench, alone(9, 5));
                Checks.tellLine(bench, x - 20, y - 20, x, y, x + 20, y - 20, x + 40, y - 20);
                bench.go(1);
                CHECKS.same("cell 9 and a point at " + x + ", " + y, bench.point(1, 1), x < 128 && y < 128 ? y + 4 : y);
            }
        }
    }

    private static void settingsAtFirst() {
        MeanderBench bench = new MeanderBench();
        afterYear("settings at first", bench, 98, 123, 100, 100);
        CHECKS.same("the same settings", bench.set(50, 4, 2, 1, 32, 8), true);
        afterYear("the same settings", bench, 98, 123, 100, 100);
        MeanderBench still = new MeanderBench();
        Checks.tellBanks(still, all(0));
        // A piece of 32 is not too long, one of 33 is.
        Checks.tellLine(still, 0, 0, 32, 0, 65, 0, 65, 32, 65, 65);
        still.go(1);
        CHECKS.line("32 is long at first", still, 0, 0, 32, 0, 48, 0, 65, 0, 65, 32, 65, 48, 65, 65);
        Checks.tellLine(still, 0, 0, 20, 0, 20, 20, 12, 28, 20, 8, 30, 8, 50, 8);
        still.go(1);
        CHECKS.same("near is not 9 at first", still.count(2), 1);
        CHECKS.same("near is 8 at first", still.loop(0, 1), 2);
        Checks.tellLine(still, 0, 0, 20, 0, 20, 20, 12, 28, 20, 9, 30, 9, 50, 9);
        still.go(1);
        CHECKS.same("9 is not near at first", still.count(2), 0);
    }

    private static void settingsAreTaken() {
        MeanderBench bench = new MeanderBench();
        // Force 1 by 20: only w1, only w2, only w0; and no move beyond 8.
        CHECKS.same("set w1", bench.set(100, 0, 9, 0, 64, 1), true);
        afterYear("w1 alone", bench, 100, 112, 108, 92);
        CHECKS.same("set w2", bench.set(100, 0, 0, 9, 64, 1), true);
        afterYear("w2 alone", bench, 100, 120, 92, 108);
        CHECKS.same("set w0", bench.set(100, 3, 0, 0, 64, 1), true);
        afterYear("w0 alone", bench, 97, 126, 97, 100);
        CHECKS.same("set rate 0", bench.set(0, 9, 9, 9, 64, 1), true);
        afterYear("rate 0", bench, 100, 120, 100, 100);
        CHECKS.same("set rate 200", bench.set(200, 1, 0, 0, 64, 1), true);
        afterYear("rate 200", bench, 98, 124, 98, 100);
        int[][] edges = {{0, 0, 0, 0, 8, 1}, {200, 9, 9, 9, 64, 32}};
        for (int[] e : edges) {
            CHECKS.same("set at the edge", bench.set(e[0], e[1], e[2], e[3], e[4], e[5]), true);
        }
        bench.go(1);
        CHECKS.same("set() does not touch the year", bench.count(0), 2);
    }

    private static void settingsAreRefused() {
        int[] least = {0, 0, 0, 0, 8, 1};
        int[] most = {200, 9, 9, 9, 64, 32};
        MeanderBench bench = new MeanderBench();
        for (int at = 0; at < 6; at++) {
            for (int wrong : new int[] {least[at] - 1, most[at] + 1, Integer.MIN_VALUE, Integer.MAX_VALUE}) {
                int[] s = {99, 7, 7, 7, 8, 32};
                s[at] = wrong;
                CHECKS.same("set with " + wrong + " at " + at, bench.set(s[0], s[1], s[2], s[3], s[4], s[5]), false);
            }
        }
        afterYear("settings that are refused change nothing", bench, 98, 123, 100, 100);
    }
}
