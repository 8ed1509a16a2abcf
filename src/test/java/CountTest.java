/** Promise 19: count. */
public final class CountTest {
    private static final Checks CHECKS = new Checks();

    public static void main(String[] args) {
        counts("a new object", new MeanderBench(), 0, 5, 0, 0, 0, 511, 0);
        MeanderBench bench = Checks.stillBench(64, 10, 0, 100, 100, 100, 100, 160, 60, 160, 60, 106, 300, 106);
        counts("told", bench, 0, 6, 0, 0, 0, 494, 0);
        bench.plot(5, 5);
        bench.plot(6, 6);
        bench.mark(5, 5, 5);
        bench.mark(6, 6, 6);
        bench.mark(7, 7, 7);
        bench.feed(0, 0, 0, 0, 0);
        bench.end(11);
        counts("filled", bench, 0, 6, 0, 2, 3, 494, 11);
        bench.go(1);
        // 0 100, 50 100, 60 106, 180 106, 300 106.
        counts("cut", bench, 1, 5, 1, 2, 3, 306, 11);
        CHECKS.same("go(7)", bench.go(7), 8);
        CHECKS.same("count(0)", bench.count(0), 8);
        bench.end(0);
        Checks.tellLine(bench, 511, 511, 0, 0, 511, 511, 0, 0);
        counts("from corner to corner", bench, 0, 4, 0, 2, 3, 3066, 0);
        Checks.tellLine(bench, 7, 7, 7, 7, 7, 7, 7, 7);
        CHECKS.same("no length", bench.count(5), 0);
        for (int what : new int[] {-1, 7, 8, Integer.MIN_VALUE, Integer.MAX_VALUE}) {
            CHECKS.same("count(" + what + ")", bench.count(what), -1);
        }
        CHECKS.finish();
    }

    private static void counts(String when, MeanderBench bench, int... due) {
        for (int what = 0; what < due.length; what++) {
            CHECKS.same(when + ": count(" + what + ")", bench.count(what), due[what]);
        }
    }
}
