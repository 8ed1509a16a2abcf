/** Promise 11: side of a place. */
public final class SideTest {
    private static final Checks CHECKS = new Checks();

    public static void main(String[] args) {
        MeanderBench bench = new MeanderBench();
        sides(bench, "below the line", 1, 0, 255, 510, 0, 128, 255, 384, 0);
        sides(bench, "on the line and above", 0, 0, 256, 510, 256, 128, 257, 510, 511);
        beyond(bench);
        step(10, 100, 20, 100, 20, 200, 40, 200);
        step(40, 200, 20, 200, 20, 100, 10, 100);
        slant(0, 0, 3, 1, 6, 0, 9, 3);
        slant(9, 3, 6, 0, 3, 1, 0, 0);
        manyPieces();
        byTheLineOfNow();
        CHECKS.finish();
    }

    private static void sides(MeanderBench bench, String what, int due, int... xy) {
        for (int k = 0; k < xy.length; k += 2) {
            CHECKS.same(what + ": side(" + xy[k] + ", " + xy[k + 1] + ")", bench.side(xy[k], xy[k + 1]), due);
        }
    }

    private static void beyond(MeanderBench bench) {
        sides(bench, "no side", -1, -1, 0, 511, 0, 512, 0, 0, -1, 0, 512, 511, 511, -1, -1,
                Integer.MIN_VALUE, 5, Integer.MAX_VALUE, 5, 5, Integer.MIN_VALUE, 5, Integer.MAX_VALUE);
    }

    /** An upright piece is above nothing; a piece has its lesser x, not its greater one. */
    private static void step(int... xy) {
        MeanderBench bench = new MeanderBench();
        Checks.tellLine(bench, xy);
        sides(bench, "step", 1, 10, 0, 10, 99, 19, 99, 20, 0, 20, 150, 20, 199, 39, 0, 39, 199);
        sides(bench, "step", 0, 9, 0, 10, 100, 19, 100, 20, 200, 39, 200, 40, 0, 40, 199, 510, 0);
    }

    private static void slant(int... xy) {
        MeanderBench bench = new MeanderBench();
        Checks.tellLine(bench, xy);
        sides(bench, "slant", 1, 1, 0, 2, 0, 3, 0, 4, 0, 5, 0, 7, 0, 8, 1);
        sides(bench, "slant", 0, 0, 0, 1, 1, 2, 1, 3, 1, 6, 0, 7, 1, 8, 2, 9, 0);
    }

    private static void manyPieces() {
        MeanderBench bench = new MeanderBench();
        Checks.tellLine(bench, 0, 100, 100, 100, 100, 200, 0, 200, 0, 300, 100, 300);
        sides(bench, "odd", 1, 50, 99, 50, 250, 50, 200, 0, 0, 99, 299);
        sides(bench, "even", 0, 50, 100, 50, 150, 50, 199, 50, 300, 100, 0);
        // The middle of 0 to 511 by 511: heights that no double of few digits would tell apart.
        Checks.tellLine(bench, 0, 0, 511, 510, 511, 511, 510, 511);
        sides(bench, "just above", 1, 1, 0, 256, 255, 509, 508);
        sides(bench, "just below", 0, 1, 1, 256, 256, 509, 509);
    }

    private static void byTheLineOfNow() {
        MeanderBench bench = new MeanderBench();
        bench.set(50, 4, 2, 1, 64, 1);
        Checks.tellLine(bench, 100, 100, 120, 100, 140, 120, 160, 100, 180, 100, 200, 100);
        sides(bench, "year 0", 0, 140, 120, 140, 122);
        bench.go(1);
        sides(bench, "year 1", 1, 140, 120, 140, 122);
        sides(bench, "year 1", 0, 140, 123);
    }
}
