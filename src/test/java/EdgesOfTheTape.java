import java.util.Arrays;

/** Boundary cases of promises 1 to 5: a new object, the tape, and what is told by it. */
final class EdgesOfTheTape {
    private static final int[] FIRST = {0, 256, 128, 256, 256, 256, 384, 256, 511, 256};
    /** Still, but cut in year 1 if long is 64 and near is 10; the plot 80 130 has its side by the loop. */
    private static final int[] NECK = {0, 100, 100, 100, 100, 160, 60, 160, 60, 106, 300, 106};

    private final Checks checks;

    EdgesOfTheTape(Checks checks) {
        this.checks = checks;
    }

    void test(Sentences s) {
        String made = "Promise 1: A new object";
        s.holds(made, "THE LINE: 0 256, 128 256, 256 256, 384 256, 511 256", this::firstLine);
        s.holds(made, "no LOOPS, PLOTS, MARKS; YEAR 0; an empty tape.", this::nothingElseAtFirst);
        String feed = "Promise 2: feed";
        s.holds(feed, "Twenty bytes come behind the tape, of each number the highest first: how many it has",
                this::twentyBytes);
        s.holds(feed, "NONE, and none come, if it would have more than 200.", this::fullTape);
        String end = "Promise 3: end";
        s.holds(end, "The tape has its first n bytes alone: true", this::firstBytesAlone);
        s.holds(end, "false, if it has not so many, or n is below 0.", this::wrongEnds);
        String line = "Promise 4: line";
        s.holds(line, "the tape's bytes (empty then, here and below)", this::emptyThen);
        s.holds(line, "x, y of each POINT, two bytes each, the higher one first", this::higherByteFirst);
        s.holds(line, "YEAR 0, no LOOPS; PLOTS' OWNERS are their SIDES: true", this::toldAnew);
        s.holds(line, "false, and all stays", this::allStays);
        s.holds(line, "not 4 to 48 POINTS of four bytes", this::wrongNumbersOfPoints);
        s.holds(line, "or one beyond THE PLAIN.", this::pointsBeyondThePlain);
        s.holds("Terms", "THE PLAIN: x, y from 0 to 511.", this::pointsAtThePlainsEdges);
        s.holds("Terms", "THE LINE: POINTS, 4 to 48", this::fewestAndMostPoints);
        String banks = "Promise 5: banks";
        s.holds(banks, "BANKS are the tape's 64 bytes: true", this::sixtyFourBytes);
        s.holds(banks, "false, if they are not as told.", this::wrongBanks);
    }

    private void firstLine() {
        MeanderBench bench = new MeanderBench();
        checks.line("new", bench, FIRST);
        checks.noSuch("point(5, 0)", () -> bench.point(5, 0));
        // It is a line that was told: rates are tried from it.
        bench.marks(0);
        bench.mark(511, 256, 0);
        checks.same("its last point is met", bench.met(200, 200), 1);
        bench.mark(510, 256, 0);
        checks.same("a place beside it is not", bench.met(200, 200), 0);
    }

    private void nothingElseAtFirst() {
        MeanderBench bench = new MeanderBench();
        for (int what : new int[] {0, 2, 3, 4, 6}) {
            checks.same("count(" + what + ")", bench.count(what), 0);
        }
        checks.noSuch("loop(0, 0)", () -> bench.loop(0, 0));
        checks.noSuch("owner(0, 0)", () -> bench.owner(0, 0));
        checks.same("end(1)", bench.end(1), false);
        checks.same("line() of the empty tape", bench.line(), false);
        checks.same("banks() of the empty tape", bench.banks(), false);
        checks.line("behind these", bench, FIRST);
        checks.same("plot", bench.plot(0, 0), 0);
        checks.same("mark", bench.mark(0, 0, 0), 0);
    }

    private void twentyBytes() {
        MeanderBench bench = new MeanderBench();
        checks.same("behind none", bench.feed(0x00000001, 0x00020003, 0x01ff0100, 0x00ff0080, -1), 20);
        checks.same("end(16)", bench.end(16), true);
        checks.same("line()", bench.line(), true);
        checks.line("highest first", bench, 0, 1, 2, 3, 511, 256, 255, 128);
        for (int kept = 0; kept <= 20; kept++) {
            bench.feed(Integer.MIN_VALUE, Integer.MAX_VALUE, -1, 0, 1);
            bench.end(kept);
            checks.same("behind " + kept, bench.feed(-1, -1, -1, -1, -1), kept + 20);
            bench.end(0);
        }
        bench.feed(0x00050006, 0x00070008, 0x0009ffff, -1, -1);
        bench.end(10);
        bench.feed(0x000a000b, 0x000c0000, -1, -1, -1);
        bench.end(16);
        checks.same("line()", bench.line(), true);
        checks.line("behind the tape, in a point's middle", bench, 5, 6, 7, 8, 9, 10, 11, 12);
    }

    private static MeanderBench fedTimes(int times) {
        MeanderBench bench = new MeanderBench();
        for (int t = 0; t < times; t++) {
            bench.feed(5 * t, 5 * t + 1, 5 * t + 2, 5 * t + 3, 5 * t + 4);
        }
        return bench;
    }

    private void fullTape() {
        checks.same("180 and 20", fedTimes(9).feed(0, 0, 0, 0, 0), 200);
        for (int bytes : new int[] {181, 199, 200}) {
            MeanderBench bench = fedTimes(10);
            bench.end(bytes);
            checks.same(bytes + " and 20", bench.feed(-1, -1, -1, -1, -1), -1);
            checks.same("count(6) behind " + bytes, bench.count(6), bytes);
        }
        MeanderBench bench = fedTimes(10);
        bench.feed(-1, -1, -1, -1, -1);
        bench.end(192);
        checks.same("line() of what was there", bench.line(), true);
        checks.same("its last point", bench.point(47, 1), 47);
        checks.same("its first point", bench.point(0, 1), 0);
    }

    private void firstBytesAlone() {
        MeanderBench bench = fedTimes(10);
        for (int n : new int[] {200, 199, 180, 20, 19, 1, 0, 0}) {
            checks.same("end(" + n + ")", bench.end(n), true);
            checks.same("count(6)", bench.count(6), n);
        }
        bench.feed(0x00010002, 0x00030004, 0x00050006, 0x00070008, -1);
        bench.end(16);
        bench.line();
        checks.line("the first ones", bench, 1, 2, 3, 4, 5, 6, 7, 8);
    }

    private void wrongEnds() {
        for (int bytes : new int[] {0, 1, 16, 20}) {
            MeanderBench bench = fedTimes(1);
            bench.end(bytes);
            for (int n : new int[] {bytes + 1, 201, Integer.MAX_VALUE, -1, -bytes - 1, Integer.MIN_VALUE}) {
                checks.same("end(" + n + ") of " + bytes, bench.end(n), false);
                checks.same("count(6)", bench.count(6), bytes);
            }
        }
        MeanderBench bench = fedTimes(1);
        bench.end(21);
        bench.end(-1);
        checks.same("the bytes stay", bench.line(), true);
        checks.line("the bytes stay", bench, 0, 0, 0, 1, 0, 2, 0, 3, 0, 4);
    }

    private void emptyThen() {
        MeanderBench bench = new MeanderBench();
        int[][] tapes = {new int[16], new int[15], new int[63], new int[64], new int[65], new int[200]};
        for (int[] bytes : tapes) {
            Checks.feedBytes(bench, bytes);
            bench.line();
            checks.same("count(6) behind line() of " + bytes.length, bench.count(6), 0);
            Checks.feedBytes(bench, bytes);
            bench.banks();
            checks.same("count(6) behind banks() of " + bytes.length, bench.count(6), 0);
        }
        checks.same("line() of the same tape again", Checks.tellLine(bench, FIRST) && !bench.line(), true);
        checks.same("banks() of the same tape again", Checks.tellBanks(bench, new int[64]) && !bench.banks(), true);
        checks.same("feed behind these", bench.feed(0, 0, 0, 0, 0), 20);
    }

    private void higherByteFirst() {
        MeanderBench bench = new MeanderBench();
        Checks.feedBytes(bench, 0, 255, 1, 0, 0, 127, 0, 128, 1, 255, 0, 0, 0, 1, 1, 1);
        checks.same("line()", bench.line(), true);
        checks.line("two bytes each", bench, 255, 256, 127, 128, 511, 0, 1, 257);
    }

    private void toldAnew() {
        MeanderBench bench = Checks.stillBench(64, 10, NECK);
        for (int k = 0; k < 20; k++) {
            bench.plot(80, 130);
        }
        for (int times = 0; times < 5; times++) {
            bench.go(200);
        }
        checks.same("the last year", bench.count(0), 999);
        checks.same("a loop", bench.count(2), 1);
        checks.same("line()", Checks.tellLine(bench, FIRST), true);
        checks.same("year 0", bench.count(0), 0);
        checks.same("no loops", bench.count(2), 0);
        checks.noSuch("loop(0, 0)", () -> bench.loop(0, 0));
        checks.same("plots stay", bench.count(3), 20);
        // The neck's owner was 1 with side 0 behind the cut; below a line at 256 the side is 1.
        for (int k = 0; k < 20; k++) {
            checks.same("owner(" + k + ", 0)", bench.owner(k, 0), 1);
            checks.same("owner(" + k + ", 2)", bench.owner(k, 2), 0);
        }
        Checks.tellLine(bench, 0, 0, 200, 0, 300, 0, 511, 0);
        checks.same("above a line at 0", bench.owner(19, 0), 0);
        checks.same("years go by again", bench.go(1), 1);
    }

    private void allStays() {
        int[][] wrong = {new int[0], {0, 0, 10, 0, 20, 0}, {0, 0, 10, 0, 20, 0, 30, 512}, new int[98]};
        for (int[] xy : wrong) {
            MeanderBench bench = Checks.stillBench(64, 10, NECK);
            bench.plot(80, 130);
            bench.mark(100, 160, 0);
            bench.met(3, 7);
            bench.go(1);
            checks.same("line()", Checks.tellLine(bench, xy), false);
            checks.line("the line", bench, 0, 100, 50, 100, 60, 106, 180, 106, 300, 106);
            checks.same("year", bench.count(0), 1);
            checks.same("loops", bench.count(2), 1);
            checks.same("twice the loop's area", bench.loop(0, 2), 4860);
            checks.same("owner, not its side", bench.owner(0, 0), 1);
            checks.same("marks", bench.count(4), 1);
            checks.same("rates", bench.rate(4), 7);
            bench.marks(0);
            bench.mark(100, 160, 0);
            checks.same("the line that was told", bench.met(0, 0), 1);
        }
    }

    private static int[] row(int points) {
        int[] xy = new int[2 * points];
        for (int k = 0; k < points; k++) {
            xy[2 * k] = 10 * k;
            xy[2 * k + 1] = k;
        }
        return xy;
    }

    private void wrongNumbersOfPoints() {
        MeanderBench bench = new MeanderBench();
        int[] all = Checks.bytesOfLine(row(50));
        for (int bytes = 0; bytes <= 200; bytes++) {
            Checks.feedBytes(bench, Arrays.copyOf(all, bytes));
            checks.same("line() of " + bytes + " bytes", bench.line(), bytes % 4 == 0 && bytes >= 16 && bytes <= 192);
        }
        checks.same("the last one that was taken", bench.count(1), 48);
    }

    private void pointsBeyondThePlain() {
        MeanderBench bench = new MeanderBench();
        for (int beyond : new int[] {512, 767, 32767, 32768, 65535}) {
            for (int at : new int[] {0, 1, 2, 3, 46, 47, 94, 95}) {
                int[] xy = row(48);
                xy[at] = beyond;
                checks.same("line() with " + beyond + " at " + at, Checks.tellLine(bench, xy), false);
            }
        }
        checks.line("the line stays", bench, FIRST);
    }

    private void pointsAtThePlainsEdges() {
        MeanderBench bench = new MeanderBench();
        for (int edge : new int[] {0, 511}) {
            for (int at : new int[] {0, 1, 46, 47, 94, 95}) {
                int[] xy = row(48);
                xy[at] = edge;
                checks.same("line() with " + edge + " at " + at, Checks.tellLine(bench, xy), true);
                checks.line("with " + edge + " at " + at, bench, xy);
            }
        }
    }

    private void fewestAndMostPoints() {
        MeanderBench bench = new MeanderBench();
        checks.same("3", Checks.tellLine(bench, row(3)), false);
        checks.same("4", Checks.tellLine(bench, row(4)), true);
        checks.line("4", bench, row(4));
        checks.same("48", Checks.tellLine(bench, row(48)), true);
        checks.line("48", bench, row(48));
        checks.same("49", Checks.tellLine(bench, row(49)), false);
        checks.line("49 change nothing", bench, row(48));
    }

    /** By how much a point in this cell moves: the bend of 40 ahead of it, felt 5 times, by the bank. */
    private static int bankOf(MeanderBench bench, int cell) {
        int x = cell % 8 * 64 + 32;
        int y = cell / 8 * 64 + 32;
        int inwards = y < 256 ? 1 : -1;
        bench.set(50, 0, 5, 0, 64, 1);
        Checks.tellLine(bench, x, y + 20 * inwards, x, y + 30 * inwards, x, y, x, y + 60 * inwards);
        bench.go(1);
        return (bench.point(2, 1) - y) * inwards;
    }

    private void sixtyFourBytes() {
        MeanderBench bench = new MeanderBench();
        int[] banks = new int[64];
        for (int cell = 0; cell < 64; cell++) {
            banks[cell] = cell % 9;
        }
        checks.same("banks()", Checks.tellBanks(bench, banks), true);
        for (int cell = 0; cell < 64; cell++) {
            checks.same("bank of cell " + cell, bankOf(bench, cell), cell % 9);
        }
    }

    private void wrongBanks() {
        MeanderBench bench = new MeanderBench();
        for (int bytes : new int[] {0, 1, 60, 63, 65, 80, 128, 200}) {
            checks.same("banks() of " + bytes + " bytes", Checks.tellBanks(bench, new int[bytes]), false);
        }
        for (int cell : new int[] {0, 1, 31, 62, 63}) {
            for (int bank : new int[] {10, 127, 128, 255}) {
                int[] banks = new int[64];
                banks[cell] = bank;
                checks.same(bank + " in cell " + cell, Checks.tellBanks(bench, banks), false);
            }
        }
        for (int cell = 0; cell < 64; cell++) {
            checks.same("bank of cell " + cell + " stays", bankOf(bench, cell), 5);
        }
        for (int cell : new int[] {0, 63}) {
            int[] banks = new int[64];
            banks[cell] = 9;
            checks.same("9 in cell " + cell, Checks.tellBanks(bench, banks), true);
            checks.same("9, but 8 at most either way", bankOf(bench, cell), 8);
            checks.same("0 in another cell", bankOf(bench, 30), 0);
        }
    }
}
