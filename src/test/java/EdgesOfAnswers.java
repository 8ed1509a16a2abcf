import java.util.ArrayList;
import java.util.List;

/** Boundary cases of promises 8, 9 and 19, and of what holds for every call. */
final class EdgesOfAnswers {
    private final Checks checks;

    EdgesOfAnswers(Checks checks) {
        this.checks = checks;
    }

    void test(Sentences s) {
        s.holds("What it is", "An object is used for at most 512 calls after it has been made", this::fiveHundredTwelve);
        s.holds("Terms", "A call that throws changes nothing.", this::throwingChangesNothing);
        String point = "Promise 8: point";
        s.holds(point, "Of POINT k: 0 x, 1 y.", this::firstAndLastPoint);
        s.holds(point, "NoSuchElementException: there is none such, or another what.", this::wrongPoints);
        String crossings = "Promise 9: crossings";
        s.holds(crossings, "How many pairs of pieces of THE LINE", this::fewestAndMostPairs);
        s.holds(crossings, "not next to each other", this::piecesNextToEachOther);
        s.holds(crossings, "have a place in common.", this::placesInCommon);
        String count = "Promise 19: count";
        s.holds(count, "0 YEAR, 1 POINTS, 2 LOOPS, 3 PLOTS, 4 MARKS", this::leastAndMostCounts);
        s.holds(count, "5 length of THE LINE (the differences of x and of y of POINTS next to each other, all together)",
                this::leastAndMostLengths);
        s.holds(count, "6 bytes of the tape.", this::bytesOfTheTape);
        s.holds(count, "NONE for another what.", this::wrongCounts);
    }

    private static int[] sameEach(int points, int... xy) {
        int[] all = new int[2 * points];
        for (int k = 0; k < all.length; k++) {
            all[k] = xy[k % xy.length];
        }
        return all;
    }

    private void fiveHundredTwelve() {
        MeanderBench bench = new MeanderBench();
        for (int call = 1; call <= 510; call++) {
            checks.same("call " + call, bench.go(1), call);
        }
        checks.same("call 511", bench.met(181, 200), 20);
        checks.same("call 512", bench.foretold(true), 61);
    }

    private static List<Integer> allAnswers(MeanderBench bench) {
        List<Integer> all = new ArrayList<>();
        for (int what = 0; what <= 6; what++) {
            all.add(bench.count(what));
        }
        for (int k = 0; k < bench.count(1); k++) {
            all.add(bench.point(k, 0));
            all.add(bench.point(k, 1));
        }
        for (int what = 0; what <= 2; what++) {
            all.add(bench.loop(0, what));
            all.add(bench.owner(0, what));
        }
        for (int k = 0; k <= 5; k++) {
            all.add(bench.rate(k));
        }
        all.add(bench.foretold(false));
        all.add(bench.crossings());
        return all;
    }

    private static MeanderBench used() {
        MeanderBench bench = Checks.stillBench(64, 10, 0, 100, 100, 100, 100, 160, 60, 160, 60, 106, 300, 106);
        bench.plot(80, 130);
        bench.mark(0, 100, 3);
        bench.met(0, 4);
        bench.go(3);
        bench.feed(1, 2, 3, 4, 5);
        return bench;
    }

    private void throwingChangesNothing() {
        MeanderBench bench = used();
        List<Integer> before = allAnswers(bench);
        int[] wrong = {Integer.MIN_VALUE, -1, 48, Integer.MAX_VALUE};
        for (int w : wrong) {
            checks.noSuch("point(" + w + ", 0)", () -> bench.point(w, 0));
            checks.noSuch("point(0, " + w + ")", () -> bench.point(0, w));
            checks.noSuch("loop(" + w + ", 0)", () -> bench.loop(w, 0));
            checks.noSuch("loop(0, " + w + ")", () -> bench.loop(0, w));
            checks.noSuch("owner(" + w + ", 0)", () -> bench.owner(w, 0));
            checks.noSuch("owner(0, " + w + ")", () -> bench.owner(0, w));
            checks.same("all answers are those of before", allAnswers(bench).equals(before), true);
        }
        MeanderBench other = used();
        bench.go(5);
        other.go(5);
        checks.same("and those of later YEARS", allAnswers(bench).equals(allAnswers(other)), true);
    }

    private void firstAndLastPoint() {
        MeanderBench bench = new MeanderBench();
        checks.same("point(0, 0)", bench.point(0, 0), 0);
        checks.same("point(0, 1)", bench.point(0, 1), 256);
        checks.same("point(4, 0)", bench.point(4, 0), 511);
        checks.same("point(4, 1)", bench.point(4, 1), 256);
        int[] xy = sameEach(48, 1, 2, 3, 4);
        xy[94] = 511;
        xy[95] = 0;
        Checks.tellLine(bench, xy);
        checks.same("point(47, 0)", bench.point(47, 0), 511);
        checks.same("point(47, 1)", bench.point(47, 1), 0);
        checks.same("point(46, 1)", bench.point(46, 1), 2);
    }

    private void wrongPoints(MeanderBench bench, int points) {
        checks.same("count(1)", bench.count(1), points);
        for (int what = 0; what <= 1; what++) {
            int w = what;
            for (int k : new int[] {-1, points, 48, 49, Integer.MIN_VALUE, Integer.MAX_VALUE}) {
                checks.noSuch("point(" + k + ", " + w + ") of " + points, () -> bench.point(k, w));
            }
        }
        for (int what : new int[] {-1, 2, 3, Integer.MIN_VALUE, Integer.MAX_VALUE}) {
            checks.noSuch("point(0, " + what + ")", () -> bench.point(0, what));
            checks.noSuch("point(" + points + ", " + what + ")", () -> bench.point(points, what));
        }
    }

    private void wrongPoints() {
        MeanderBench bench = new MeanderBench();
        wrongPoints(bench, 5);
        Checks.tellLine(bench, sameEach(48, 1, 2, 3, 4));
        wrongPoints(bench, 48);
        // Fewer than before: those of before are there no more, told anew or left out or cut.
        Checks.tellLine(bench, sameEach(4, 1, 2));
        wrongPoints(bench, 4);
        Checks.tellLine(bench, sameEach(48, 1, 2));
        bench.go(1);
        wrongPoints(bench, 4);
        wrongPoints(used(), 7);
    }

    private void crossings(String what, int due, int... xy) {
        MeanderBench bench = new MeanderBench();
        checks.same(what + ": line()", Checks.tellLine(bench, xy), true);
        checks.same(what, bench.crossings(), due);
        int[] back = new int[xy.length];
        for (int k = 0; k < xy.length; k += 2) {
            back[k] = xy[xy.length - 2 - k];
            back[k + 1] = xy[xy.length - 1 - k];
        }
        Checks.tellLine(bench, back);
        checks.same(what + ", from the other end", bench.crossings(), due);
    }

    private void fewestAndMostPairs() {
        crossings("the one pair of four points", 1, 0, 0, 100, 100, 100, 0, 0, 100);
        crossings("the one pair, in one place", 1, sameEach(4, 9, 9));
        crossings("three pairs of five points", 3, sameEach(5, 9, 9));
        // 47 pieces: 47 times 46 by 2, less 46 that are next to each other.
        crossings("all pairs of 48 points, in one place", 1035, sameEach(48, 511, 511));
        crossings("all pairs of 48 points, to and fro", 1035, sameEach(48, 0, 0, 511, 511));
        int[] row = new int[96];
        for (int k = 0; k < 48; k++) {
            row[2 * k] = 10 * k;
        }
        crossings("none of a row of 48", 0, row);
    }

    private void piecesNextToEachOther() {
        crossings("a peak", 0, 0, 0, 50, 50, 100, 0, 150, 0);
        crossings("folded back over each other", 0, 50, 0, 100, 0, 20, 0, 20, 50);
        crossings("folded back over each other, at the end", 0, 50, 50, 50, 0, 100, 0, 60, 0);
        crossings("one farther than next to each other", 1, 0, 0, 50, 0, 50, 50, 25, 0);
        crossings("a piece of one place between them", 1, 0, 0, 100, 0, 100, 0, 200, 50);
    }

    private void placesInCommon() {
        crossings("an end on an end", 1, 0, 0, 50, 0, 50, 50, 0, 0);
        crossings("an end on a piece", 1, 0, 0, 100, 0, 100, 50, 50, 0);
        crossings("one above it", 0, 0, 0, 100, 0, 100, 50, 50, 1);
        crossings("one beside its end", 0, 0, 0, 50, 0, 60, 50, 51, 0);
        crossings("between whole numbers", 1, 0, 0, 5, 3, 4, 0, 1, 4);
        // The later piece begins short of the earlier one, on each side of it, and reaches it at 55 or 95.
        crossings("reached from the left and below", 1, 50, 10, 100, 10, 20, 0, 90, 20);
        crossings("reached from the left and above", 1, 50, 10, 100, 10, 20, 20, 90, 0);
        crossings("reached from the right and below", 1, 50, 10, 100, 10, 130, 0, 60, 20);
        crossings("reached from the right and above", 1, 50, 10, 100, 10, 130, 20, 60, 0);
        crossings("more than one place", 1, 0, 0, 100, 0, 50, 0, 150, 0);
        crossings("one place, in one row", 1, 0, 0, 50, 0, 100, 0, 50, 0);
        crossings("one short of it, in one row", 0, 0, 0, 50, 0, 100, 0, 51, 0);
        crossings("one short of it, upright", 0, 7, 0, 7, 50, 7, 100, 7, 51);
        crossings("one short of it, slanting", 0, 0, 0, 50, 50, 100, 100, 51, 51);
        crossings("side by side", 0, 0, 1, 100, 101, 100, 100, 0, 0);
        crossings("the corners of the plain", 1, 0, 0, 511, 511, 511, 0, 0, 511);
        crossings("close by over the whole plain", 0, 0, 0, 511, 510, 511, 509, 1, 0);
        crossings("a piece of one place on a piece", 1, 7, 7, 7, 7, 9, 9, 5, 5);
        crossings("a piece of one place beside a piece", 0, 7, 8, 7, 8, 9, 9, 5, 5);
        crossings("a piece of one place in a row with a piece", 0, 5, 5, 5, 5, 9, 9, 6, 6);
    }

    private void counts(String when, MeanderBench bench, int... due) {
        for (int what = 0; what < due.length; what++) {
            checks.same(when + ": count(" + what + ")", bench.count(what), due[what]);
        }
    }

    private void leastAndMostCounts() {
        counts("a new object", new MeanderBench(), 0, 5, 0, 0, 0);
        MeanderBench bench = Checks.stillBench(8, 32, 0, 0, 20, 0, 40, 0, 60, 0);
        counts("the fewest points", bench, 0, 4, 0, 0, 0);
        for (int k = 0; k < 31; k++) {
            bench.plot(k, k);
            bench.mark(k, k, k);
        }
        for (int times = 0; times < 6; times++) {
            bench.go(200);
        }
        counts("the most of all else", bench, 999, 5, 30, 20, 30);
        Checks.tellLine(bench, sameEach(48, 1, 2, 3, 4));
        counts("the most points", bench, 0, 48, 0, 20, 30);
        bench.marks(0);
        counts("no marks", bench, 0, 48, 0, 20, 0);
    }

    private void leastAndMostLengths() {
        MeanderBench bench = new MeanderBench();
        checks.same("at first", bench.count(5), 511);
        Checks.tellLine(bench, sameEach(4, 7, 7));
        checks.same("in one place", bench.count(5), 0);
        Checks.tellLine(bench, 0, 0, 0, 0, 0, 0, 0, 1);
        checks.same("the shortest", bench.count(5), 1);
        Checks.tellLine(bench, sameEach(48, 0, 0, 511, 511));
        checks.same("the longest: 47 times 1022", bench.count(5), 48034);
        Checks.tellLine(bench, sameEach(48, 511, 0, 0, 511));
        checks.same("the longest, the other way", bench.count(5), 48034);
        Checks.tellLine(bench, 10, 10, 13, 6, 13, 6, 10, 10);
        checks.same("there and back", bench.count(5), 14);
    }

    private void bytesOfTheTape() {
        MeanderBench bench = new MeanderBench();
        for (int bytes = 0; bytes <= 200; bytes += 20) {
            checks.same("count(6)", bench.count(6), bytes);
            bench.feed(0, 0, 0, 0, 0);
        }
        checks.same("count(6) of a full tape", bench.count(6), 200);
        bench.end(1);
        checks.same("count(6) behind end(1)", bench.count(6), 1);
        bench.line();
        checks.same("count(6) behind line()", bench.count(6), 0);
    }

    private void wrongCounts() {
        MeanderBench bench = used();
        for (int what : new int[] {-1, 7, 8, Integer.MIN_VALUE, Integer.MAX_VALUE}) {
            checks.same("count(" + what + ")", bench.count(what), -1);
        }
    }
}
