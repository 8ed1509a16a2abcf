/** Promise 9: pairs of pieces, not next to each other, that have a place in common. */
public final class CrossingsTest {
    private static final Checks CHECKS = new Checks();

    public static void main(String[] args) {
        crossings("none", 0, 0, 256, 128, 256, 256, 256, 384, 256);
        crossings("crossed", 1, 0, 0, 100, 100, 100, 0, 0, 100);
        crossings("crossed where y is no whole number", 1, 0, 0, 3, 2, 3, 0, 0, 1);
        crossings("crossed where neither is", 1, 0, 0, 5, 3, 4, 0, 1, 4);
        crossings("an end on a piece", 1, 0, 0, 100, 0, 100, 50, 50, 0);
        crossings("an end just above a piece", 0, 0, 0, 100, 0, 100, 50, 50, 1);
        crossings("an end on an end", 1, 0, 0, 50, 0, 50, 50, 50, 0);
        crossings("the first end on a piece", 1, 50, 10, 70, 40, 100, 10, 0, 10);
        crossings("over each other in one row", 1, 0, 0, 100, 0, 50, 0, 150, 0);
        crossings("ends meet in one row", 1, 0, 0, 50, 0, 100, 0, 50, 0);
        crossings("apart in one row", 0, 0, 0, 10, 0, 20, 0, 30, 0);
        crossings("apart in one slanting row", 0, 0, 0, 10, 10, 20, 20, 30, 30);
        crossings("apart in one upright row", 0, 5, 0, 5, 10, 5, 20, 5, 30);
        crossings("side by side", 0, 0, 1, 100, 101, 100, 100, 0, 0);
        crossings("beyond the end of the first", 0, 0, 0, 10, 10, 9, 20, 20, 9);
        crossings("beyond the end of the second", 0, 9, 20, 20, 9, 10, 10, 0, 0);
        crossings("not reaching up", 0, 0, 0, 100, 0, 60, 10, 60, 50);
        crossings("next to each other and back over", 0, 50, 0, 100, 0, 20, 0, 20, 50);
        crossings("a piece that is one place between them", 1, 0, 0, 100, 0, 100, 0, 200, 50);
        crossings("a piece that is one place", 1, 5, 5, 5, 5, 9, 9, 5, 5);
        crossings("one place on a piece", 1, 7, 7, 7, 7, 9, 9, 5, 5);
        crossings("one place beside a piece", 0, 5, 5, 5, 5, 9, 9, 6, 5);
        crossings("one place in a row with a piece", 0, 5, 5, 5, 5, 9, 9, 6, 6);
        crossings("two pieces of one place each", 1, 5, 5, 5, 5, 5, 5, 5, 5);
        crossings("two pieces of one place each, apart", 0, 5, 5, 5, 5, 6, 5, 6, 5);
        crossings("three pairs", 3, 0, 50, 100, 50, 100, 0, 20, 0, 20, 100, 60, 100, 60, 0);
        crossings("all in one place: five pieces, six pairs", 6, 9, 9, 9, 9, 9, 9, 9, 9, 9, 9, 9, 9);
        crossings("over the whole plain", 1, 0, 0, 511, 511, 511, 0, 0, 511);
        crossings("close by over the whole plain", 0, 0, 0, 511, 510, 511, 509, 1, 0);
        behindYears();
        CHECKS.finish();
    }

    private static void crossings(String what, int due, int... xy) {
        MeanderBench bench = new MeanderBench();
        CHECKS.same(what + ": line()", Checks.tellLine(bench, xy), true);
        CHECKS.same(what, bench.crossings(), due);
        int[] back = new int[xy.length];
        for (int k = 0; k < xy.length; k += 2) {
            back[k] = xy[xy.length - 2 - k];
            back[k + 1] = xy[xy.length - 1 - k];
        }
        Checks.tellLine(bench, back);
        CHECKS.same(what + ", upstream", bench.crossings(), due);
    }

    private static void behindYears() {
        // The middle of 0 10 and 33 11 is 16 10, which is where the line ends.
        MeanderBench bench = Checks.stillBench(32, 1, 0, 10, 33, 11, 33, 0, 16, 10);
        CHECKS.same("year 0", bench.crossings(), 0);
        bench.go(1);
        CHECKS.line("year 1", bench, 0, 10, 16, 10, 33, 11, 33, 0, 16, 10);
        CHECKS.same("year 1", bench.crossings(), 2);
    }
}
