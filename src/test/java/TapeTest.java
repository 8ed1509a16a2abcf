/** Promises 2 and 3: feed and end; what the bytes are is seen by line() and banks(). */
public final class TapeTest {
    private static final Checks CHECKS = new Checks();

    public static void main(String[] args) {
        feedCounts();
        feedKeepsTheOrderOfBytes();
        feedTakesNegativeNumbers();
        endCutsTheTape();
        fullTapeStaysAsItIs();
        CHECKS.finish();
    }

    private static void feedCounts() {
        MeanderBench bench = new MeanderBench();
        for (int times = 1; times <= 10; times++) {
            CHECKS.same("feed " + times, bench.feed(1, 2, 3, 4, 5), 20 * times);
            CHECKS.same("count(6)", bench.count(6), 20 * times);
        }
        CHECKS.same("feed 11", bench.feed(1, 2, 3, 4, 5), -1);
        CHECKS.same("count(6) of a full tape", bench.count(6), 200);
        CHECKS.same("end(181)", bench.end(181), true);
        CHECKS.same("feed that would make 201", bench.feed(1, 2, 3, 4, 5), -1);
        CHECKS.same("count(6)", bench.count(6), 181);
        CHECKS.same("end(180)", bench.end(180), true);
        CHECKS.same("feed that makes 200", bench.feed(1, 2, 3, 4, 5), 200);
    }

    private static void feedKeepsTheOrderOfBytes() {
        MeanderBench bench = new MeanderBench();
        // 0x0102 and 0x0003: 258 and 3, and so on: each number is one point.
        bench.feed(0x01020003, 0x00040105, 0x00060007, 0x01080109, 0x01ff01ff);
        CHECKS.same("line()", bench.line(), true);
        CHECKS.line("bytes in order", bench, 258, 3, 4, 261, 6, 7, 264, 265, 511, 511);
    }

    private static void feedTakesNegativeNumbers() {
        MeanderBench bench = new MeanderBench();
        CHECKS.same("feed of negative numbers", bench.feed(-1, -2, Integer.MIN_VALUE, Integer.MAX_VALUE, -5), 20);
        CHECKS.same("line() of what is beyond the plain", bench.line(), false);
        // A byte of 255 is 255, not -1.
        CHECKS.same("line of 255s", Checks.tellLine(bench, 255, 255, 0, 255, 255, 0, 128, 129), true);
        CHECKS.line("bytes from 128 to 255", bench, 255, 255, 0, 255, 255, 0, 128, 129);
    }

    private static void endCutsTheTape() {
        MeanderBench bench = new MeanderBench();
        CHECKS.same("end(0) of an empty tape", bench.end(0), true);
        CHECKS.same("end(1) of an empty tape", bench.end(1), false);
        bench.feed(1, 2, 3, 4, 5);
        CHECKS.same("end(-1)", bench.end(-1), false);
        CHECKS.same("end(MIN)", bench.end(Integer.MIN_VALUE), false);
        CHECKS.same("end(21)", bench.end(21), false);
        CHECKS.same("end(MAX)", bench.end(Integer.MAX_VALUE), false);
        CHECKS.same("count(6) behind these", bench.count(6), 20);
        CHECKS.same("end(20)", bench.end(20), true);
        CHECKS.same("end(16)", bench.end(16), true);
        CHECKS.same("count(6)", bench.count(6), 16);
        CHECKS.same("end(20) of 16", bench.end(20), false);
        CHECKS.same("line() of the first four", bench.line(), true);
        CHECKS.line("the first bytes are kept", bench, 0, 1, 0, 2, 0, 3, 0, 4);
        bench.feed(0, 0x00320000, 7, 7, 7);
        bench.end(8);
        CHECKS.same("feed behind 8", bench.feed(0x00640000, 0x00960000, 9, 9, 9), 28);
        bench.end(16);
        CHECKS.same("line()", bench.line(), true);
        CHECKS.line("bytes come behind those that are kept", bench, 0, 0, 50, 0, 100, 0, 150, 0);
    }

    private static void fullTapeStaysAsItIs() {
        MeanderBench bench = new MeanderBench();
        for (int times = 0; times < 10; times++) {
            bench.feed(10 * times, 10 * times + 1, 10 * times + 2, 10 * times + 3, 10 * times + 4);
        }
        bench.feed(-1, -1, -1, -1, -1);
        bench.end(192);
        CHECKS.same("line() of 48 points", bench.line(), true);
        CHECKS.same("count(1)", bench.count(1), 48);
        CHECKS.same("point(47, 1)", bench.point(47, 1), 92);
    }
}
