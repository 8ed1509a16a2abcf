import java.util.Arrays;

/** Promises 1 and 4: a new object, and a line that is told anew. */
public final class LineTest {
    private static final Checks CHECKS = new Checks();
    private static final int[] FIRST = {0, 256, 128, 256, 256, 256, 384, 256, 511, 256};
    private static final int[] NECK = {0, 100, 100, 100, 100, 160, 60, 160, 60, 106, 300, 106};

    public static void main(String[] args) {
        newObject();
        lineIsTold();
        lineIsRefused();
        refusedLineChangesTheTapeAlone();
        otherThingsStay();
        CHECKS.finish();
    }

    private static void newObject() {
        MeanderBench bench = new MeanderBench();
        CHECKS.line("a new object", bench, FIRST);
        for (int what : new int[] {0, 2, 3, 4, 6}) {
            CHECKS.same("count(" + what + ")", bench.count(what), 0);
        }
        CHECKS.same("feed on the empty tape", bench.feed(0, 0, 0, 0, 0), 20);
        new MeanderBench().go(7);
        CHECKS.line("objects are apart", new MeanderBench(), FIRST);
    }

    private static int[] row(int points) {
        int[] xy = new int[2 * points];
        for (int k = 0; k < points; k++) {
            xy[2 * k] = 10 * k;
            xy[2 * k + 1] = 511 - k;
        }
        return xy;
    }

    private static void lineIsTold() {
        for (int points = 4; points <= 48; points++) {
            MeanderBench bench = new MeanderBench();
            CHECKS.same("line() of " + points, Checks.tellLine(bench, row(points)), true);
            CHECKS.line("line of " + points, bench, row(points));
            CHECKS.same("the tape is empty then", bench.count(6), 0);
        }
        MeanderBench bench = Checks.stillBench(64, 10, NECK);
        bench.plot(80, 130);
        bench.go(5);
        CHECKS.same("a loop", bench.count(2), 1);
        CHECKS.same("line()", Checks.tellLine(bench, 511, 511, 0, 511, 511, 0, 0, 0), true);
        CHECKS.line("corners of the plain", bench, 511, 511, 0, 511, 511, 0, 0, 0);
        CHECKS.same("year 0", bench.count(0), 0);
        CHECKS.same("no loops", bench.count(2), 0);
        CHECKS.noSuch("loop(0, 0)", () -> bench.loop(0, 0));
        CHECKS.same("the plot stays", bench.count(3), 1);
    }

    private static void lineIsRefused() {
        MeanderBench bench = new MeanderBench();
        CHECKS.same("line() of nothing", bench.line(), false);
        CHECKS.same("three points", Checks.tellLine(bench, row(3)), false);
        CHECKS.same("49 points", Checks.tellLine(bench, row(49)), false);
        CHECKS.same("50 points", Checks.tellLine(bench, row(50)), false);
        for (int more = 1; more <= 3; more++) {
            Checks.feedBytes(bench, Arrays.copyOf(Checks.bytesOfLine(row(4)), 16 + more));
            CHECKS.same("four points and " + more + " bytes", bench.line(), false);
        }
        for (int at = 0; at < 8; at++) {
            int[] xy = {1, 2, 3, 4, 5, 6, 7, 8};
            xy[at] = 512;
            CHECKS.same("512 at " + at, Checks.tellLine(bench, xy), false);
            xy[at] = 65535;
            CHECKS.same("65535 at " + at, Checks.tellLine(bench, xy), false);
        }
        CHECKS.line("the line stays", bench, FIRST);
    }

    private static void refusedLineChangesTheTapeAlone() {
        MeanderBench bench = Checks.stillBench(64, 10, NECK);
        bench.plot(80, 130);
        bench.go(2);
        int points = bench.count(1);
        CHECKS.same("a line beyond the plain", Checks.tellLine(bench, 0, 0, 10, 0, 20, 0, 30, 512), false);
        CHECKS.same("the tape is empty", bench.count(6), 0);
        CHECKS.same("the year stays", bench.count(0), 2);
        CHECKS.same("the points stay", bench.count(1), points);
        CHECKS.same("the loop stays", bench.loop(0, 2), 4860);
        CHECKS.same("the owner stays another one than the side", bench.owner(0, 0), 1);
        CHECKS.same("met() is by the line told before", bench.mark(100, 160, 0), 0);
        bench.marks(0);
        bench.mark(100, 160, 0);
        CHECKS.same("met(0, 0)", bench.met(0, 0), 1);
    }

    private static void otherThingsStay() {
        MeanderBench bench = Checks.stillBench(9, 1, 0, 0, 10, 0, 20, 0, 30, 0);
        bench.marks(3);
        bench.mark(0, 3, 0);
        bench.met(4, 6);
        CHECKS.same("line()", Checks.tellLine(bench, 0, 0, 10, 20, 15, 0, 20, 20), true);
        CHECKS.same("marks stay", bench.count(4), 1);
        CHECKS.same("rates of the latest met() stay", bench.rate(2), 6);
        CHECKS.same("tolerance stays", bench.met(5, 5), 1);
        bench.go(1);
        // Rate 0 and long 9 are those of set() still.
        CHECKS.line("settings stay", bench, 0, 0, 5, 10, 10, 20, 12, 10, 15, 0, 17, 10, 20, 20);
    }
}
