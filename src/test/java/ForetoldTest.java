/** Promise 18: the years in which the next neck is cut, by the rates of the latest met(). */
public final class ForetoldTest {
    private static final Checks CHECKS = new Checks();
    private static final int[] NECK = {0, 100, 100, 100, 100, 160, 60, 160, 60, 106, 300, 106};
    private static final int[] SHORT = {34, 116, 46, 117, 76, 130, 94, 149};
    private static final int[] BOWL = {28, 159, 52, 110, 72, 106, 96, 153};

    public static void main(String[] args) {
        noRates();
        firstYear();
        // These years were found by a search, not by hand: lines with a first cut in the last year that counts.
        leastAndGreatest(SHORT, 64, 41, new int[] {27, 56, 60, 53});
        leastAndGreatest(BOWL, 48, 53, new int[] {61, 61, 61, 60});
        onlyRatesThatAreMet();
        bySettingsOfNow();
        fromTheBeginning();
        CHECKS.finish();
    }

    private static void foretold(String when, MeanderBench bench, int least, int greatest) {
        CHECKS.same(when + ": foretold(false)", bench.foretold(false), least);
        CHECKS.same(when + ": foretold(true)", bench.foretold(true), greatest);
    }

    private static void noRates() {
        MeanderBench bench = new MeanderBench();
        foretold("ahead of any met()", bench, -1, -1);
        bench.met(5, 4);
        foretold("behind a met() that is NONE", bench, -1, -1);
        bench.met(0, 3);
        foretold("a straight line", bench, 61, 61);
        bench.met(0, 20);
        foretold("met() that is NONE changes nothing", bench, 61, 61);
        bench.marks(0);
        bench.mark(300, 300, 0);
        bench.met(0, 3);
        foretold("no rate is met", bench, -1, -1);
    }

    private static void firstYear() {
        MeanderBench bench = Checks.stillBench(64, 10, NECK);
        bench.met(0, 0);
        foretold("year 1", bench, 1, 1);
    }

    /** The first year with a loop, seen by going there with this rate. */
    private static int yearOfFirstLoop(int[] xy, int longest, int rate) {
        MeanderBench bench = new MeanderBench();
        bench.set(rate, 4, 2, 1, longest, 5);
        Checks.tellLine(bench, xy);
        for (int year = 1; year <= 60; year++) {
            bench.go(1);
            if (bench.count(2) > 0) {
                return bench.loop(0, 0);
            }
        }
        return 61;
    }

    private static void leastAndGreatest(int[] xy, int longest, int low, int[] years) {
        MeanderBench bench = new MeanderBench();
        bench.set(0, 4, 2, 1, longest, 5);
        Checks.tellLine(bench, xy);
        int least = 99;
        int greatest = -1;
        for (int k = 0; k < years.length; k++) {
            CHECKS.same("first loop by rate " + (low + k), yearOfFirstLoop(xy, longest, low + k), years[k]);
            bench.met(low + k, low + k);
            foretold("rate " + (low + k), bench, years[k], years[k]);
            least = Math.min(least, years[k]);
            greatest = Math.max(greatest, years[k]);
            bench.met(low, low + k);
            foretold("rates up to " + (low + k), bench, least, greatest);
        }
    }

    private static void onlyRatesThatAreMet() {
        MeanderBench bench = new MeanderBench();
        bench.set(43, 4, 2, 1, 64, 5);
        Checks.tellLine(bench, SHORT);
        bench.go(60);
        int x = bench.point(1, 0);
        int y = bench.point(1, 1);
        bench.marks(0);
        bench.mark(x, y, 60);
        CHECKS.same("one rate alone has this point", bench.met(41, 44), 1);
        CHECKS.same("rate(0)", bench.rate(0), 43);
        foretold("that rate alone", bench, 60, 60);
    }

    private static void bySettingsOfNow() {
        MeanderBench bench = Checks.stillBench(64, 10, NECK);
        bench.met(0, 0);
        bench.set(0, 4, 2, 1, 64, 9);
        foretold("near of now", bench, 61, 61);
        bench.set(77, 4, 2, 1, 64, 10);
        foretold("not the rate of now", bench, 1, 1);
        Checks.tellLine(bench, 0, 0, 10, 0, 20, 0, 30, 0);
        foretold("the line that was told last", bench, 61, 61);
    }

    private static void fromTheBeginning() {
        MeanderBench bench = Checks.stillBench(64, 10, NECK);
        bench.go(10);
        bench.met(0, 0);
        foretold("behind the cut", bench, 1, 1);
        CHECKS.same("the year stays", bench.count(0), 10);
        CHECKS.same("loops stay", bench.count(2), 1);
    }
}
