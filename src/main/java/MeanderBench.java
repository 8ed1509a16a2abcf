import java.util.NoSuchElementException;

/**
 * A bench for a river that winds over its plain by whole steps.
 *
 * All rows are made when the bench is made and used again by every call, so that a long run of
 * calls makes no objects but the exceptions that the document asks for.
 */
public final class MeanderBench {
    public static final int NONE = -1;

    private static final int PLAIN_END = 511;
    private static final int LEAST_POINTS = 4;
    private static final int MOST_POINTS = 48;
    private static final int LEAST_PIECES_OF_CUT = 3;
    private static final int CLOSE = 3;
    private static final int LONGEST_MOVE = 8;
    private static final int MOVE_DIVISOR = 10000;

    private static final int CELL_WIDTH = 64;
    private static final int CELLS_IN_ROW = 8;
    private static final int CELLS = 64;
    private static final int MOST_BANK = 9;
    private static final int FIRST_BANK = 5;

    private static final int MOST_RATE = 200;
    private static final int MOST_WEIGHT = 9;
    private static final int LEAST_LONG = 8;
    private static final int MOST_LONG = 64;
    private static final int LEAST_NEAR = 1;
    private static final int MOST_NEAR = 32;

    private static final int LAST_YEAR = 999;
    private static final int MOST_YEARS_A_CALL = 200;
    private static final int LAST_MAP_YEAR = 60;
    private static final int MOST_TOLERANCE = 50;
    private static final int FIRST_TOLERANCE = 8;

    private static final int MOST_BYTES = 200;
    private static final int BYTES_A_FEED = 20;
    private static final int BYTES_A_POINT = 4;
    private static final int MOST_LOOPS = 30;
    private static final int MOST_PLOTS = 20;
    private static final int MOST_MARKS = 30;
    private static final int MOST_RATES = 20;

    private final Tape tape = new Tape();
    private final Settings settings = new Settings();
    private final Points told = new Points();
    private final River river = new River();
    private final River trial = new River();
    private final Plots plots = new Plots();
    private final Maps maps = new Maps();
    private final Rates metRates = new Rates();

    public MeanderBench() {
        told.add(0, 256);
        told.add(128, 256);
        told.add(256, 256);
        told.add(384, 256);
        told.add(511, 256);
        river.restart(told);
    }

    public int feed(int a, int b, int c, int d, int e) {
        if (tape.size > MOST_BYTES - BYTES_A_FEED) {
            return NONE;
        }
        tape.append(a);
        tape.append(b);
        tape.append(c);
        tape.append(d);
        tape.append(e);
        return tape.size;
    }

    public boolean end(int n) {
        if (!isWithin(n, 0, tape.size)) {
            return false;
        }
        tape.size = n;
        return true;
    }

    public boolean line() {
        boolean good = tape.holdsLine();
        if (good) {
            tape.copyLineTo(told);
            river.restart(told);
            plots.settle(river.course);
        }
        tape.size = 0;
        return good;
    }

    public boolean banks() {
        boolean good = tape.holdsBanks();
        if (good) {
            tape.copyBanksTo(settings.bankOfCell);
        }
        tape.size = 0;
        return good;
    }

    public boolean set(int rate, int w0, int w1, int w2, int length, int near) {
        boolean good = isWithin(rate, 0, MOST_RATE)
                && isWithin(w0, 0, MOST_WEIGHT)
                && isWithin(w1, 0, MOST_WEIGHT)
                && isWithin(w2, 0, MOST_WEIGHT)
                && isWithin(length, LEAST_LONG, MOST_LONG)
                && isWithin(near, LEAST_NEAR, MOST_NEAR);
        if (good) {
            settings.ownRate = rate;
            settings.w0 = w0;
            settings.w1 = w1;
            settings.w2 = w2;
            settings.longest = length;
            settings.near = near;
        }
        return good;
    }

    public int go(int years) {
        if (!isWithin(years, 0, MOST_YEARS_A_CALL)) {
            return NONE;
        }
        for (int gone = 0; gone < years && river.year < LAST_YEAR; gone++) {
            plots.rememberSides(river.course);
            river.windOn(settings, settings.ownRate);
            // The owners follow here, so that what the cuts change changes no owner.
            plots.followSides(river.course);
            river.cutNecks(settings.near);
        }
        return river.year;
    }

    public int point(int k, int what) throws NoSuchElementException {
        if (!isWithin(k, 0, river.course.size - 1)) {
            throw new NoSuchElementException("no such point");
        }
        switch (what) {
            case 0:
                return river.course.xs[k];
            case 1:
                return river.course.ys[k];
            default:
                throw new NoSuchElementException("a point has 0 x and 1 y alone");
        }
    }

    public int crossings() {
        return river.course.countCrossings();
    }

    public int loop(int k, int what) throws NoSuchElementException {
        if (!isWithin(k, 0, river.loops.size - 1)) {
            throw new NoSuchElementException("no such loop");
        }
        switch (what) {
            case 0:
                return river.loops.years[k];
            case 1:
                return river.loops.leftOut[k];
            case 2:
                return river.loops.twiceAreas[k];
            default:
                throw new NoSuchElementException("a loop has 0 year, 1 points and 2 area alone");
        }
    }

    public int side(int x, int y) {
        if (!hasSide(x, y)) {
            return NONE;
        }
        return river.course.sideOf(x, y);
    }

    public int plot(int x, int y) {
        if (!hasSide(x, y)) {
            return NONE;
        }
        return plots.add(x, y, river.course.sideOf(x, y));
    }

    public int owner(int k, int what) throws NoSuchElementException {
        if (!isWithin(k, 0, plots.size - 1)) {
            throw new NoSuchElementException("no such plot");
        }
        switch (what) {
            case 0:
                return plots.owners[k];
            case 1:
                return river.course.sideOf(plots.xs[k], plots.ys[k]);
            case 2:
                return plots.changes[k];
            default:
                throw new NoSuchElementException("a plot has 0 owner, 1 side and 2 changes alone");
        }
    }

    public int mark(int x, int y, int year) {
        boolean good = isWithin(x, 0, PLAIN_END)
                && isWithin(y, 0, PLAIN_END)
                && isWithin(year, 0, LAST_MAP_YEAR);
        return good ? maps.add(x, y, year) : NONE;
    }

    public boolean marks(int tolerance) {
        if (!isWithin(tolerance, 0, MOST_TOLERANCE)) {
            return false;
        }
        maps.size = 0;
        maps.tolerance = tolerance;
        return true;
    }

    public int met(int low, int high) {
        // The order of the tests keeps high - low from wrapping around.
        if (!isWithin(high, 0, MOST_RATE) || !isWithin(low, 0, high) || high - low >= MOST_RATES) {
            return NONE;
        }
        metRates.size = 0;
        for (int tried = low; tried <= high; tried++) {
            if (meetsMaps(tried)) {
                metRates.add(tried);
            }
        }
        return metRates.size;
    }

    public int rate(int k) {
        return isWithin(k, 0, metRates.size - 1) ? metRates.values[k] : NONE;
    }

    public int foretold(boolean most) {
        int found = NONE;
        for (int k = 0; k < metRates.size; k++) {
            int year = firstYearWithCut(metRates.values[k]);
            if (found == NONE || (most ? year > found : year < found)) {
                found = year;
            }
        }
        return found;
    }

    public int count(int what) {
        switch (what) {
            case 0:
                return river.year;
            case 1:
                return river.course.size;
            case 2:
                return river.loops.size;
            case 3:
                return plots.size;
            case 4:
                return maps.size;
            case 5:
                return river.course.sumOfPieces();
            case 6:
                return tape.size;
            default:
                return NONE;
        }
    }

    private boolean meetsMaps(int tried) {
        trial.restart(told);
        int last = maps.latestYear();
        for (int year = 0; year <= last; year++) {
            if (year > 0) {
                trial.windOn(settings, tried);
                trial.cutNecks(settings.near);
            }
            if (!maps.agree(trial.course, year)) {
                return false;
            }
        }
        return true;
    }

    private int firstYearWithCut(int tried) {
        trial.restart(told);
        for (int year = 1; year <= LAST_MAP_YEAR; year++) {
            trial.windOn(settings, tried);
            trial.cutNecks(settings.near);
            if (trial.loops.size > 0) {
                return year;
            }
        }
        return LAST_MAP_YEAR + 1;
    }

    private static boolean hasSide(int x, int y) {
        // A piece's greater x is not its own, so no piece can be above the plain's last x.
        return isWithin(x, 0, PLAIN_END - 1) && isWithin(y, 0, PLAIN_END);
    }

    private static boolean isWithin(int value, int least, int most) {
        return value >= least && value <= most;
    }

    private static int clamp(int value, int least, int most) {
        return Math.max(least, Math.min(most, value));
    }

    /** The bytes that are fed, each held as 0 to 255. */
    private static final class Tape {
        final int[] bytes = new int[MOST_BYTES];
        int size;

        void append(int number) {
            for (int shift = 24; shift >= 0 && size < MOST_BYTES; shift -= 8) {
                bytes[size] = (number >>> shift) & 255;
                size++;
            }
        }

        boolean holdsLine() {
            if (size % BYTES_A_POINT != 0
                    || !isWithin(size / BYTES_A_POINT, LEAST_POINTS, MOST_POINTS)) {
                return false;
            }
            for (int at = 0; at < size; at += 2) {
                if (coordinateAt(at) > PLAIN_END) {
                    return false;
                }
            }
            return true;
        }

        void copyLineTo(Points points) {
            points.size = 0;
            for (int at = 0; at + BYTES_A_POINT <= size; at += BYTES_A_POINT) {
                points.add(coordinateAt(at), coordinateAt(at + 2));
            }
        }

        boolean holdsBanks() {
            if (size != CELLS) {
                return false;
            }
            for (int at = 0; at < size; at++) {
                if (bytes[at] > MOST_BANK) {
                    return false;
                }
            }
            return true;
        }

        void copyBanksTo(int[] bankOfCell) {
            for (int cell = 0; cell < CELLS; cell++) {
                bankOfCell[cell] = bytes[cell];
            }
        }

        private int coordinateAt(int at) {
            return bytes[at] * 256 + bytes[at + 1];
        }
    }

    /** SETTINGS and BANKS. */
    private static final class Settings {
        final int[] bankOfCell = new int[CELLS];
        int ownRate = 50;
        int w0 = 4;
        int w1 = 2;
        int w2 = 1;
        int longest = 32;
        int near = 8;

        Settings() {
            for (int cell = 0; cell < CELLS; cell++) {
                bankOfCell[cell] = FIRST_BANK;
            }
        }

        int bankAt(int x, int y) {
            return bankOfCell[x / CELL_WIDTH + CELLS_IN_ROW * (y / CELL_WIDTH)];
        }
    }

    /** Points on the plain, one after another, and what can be read from them. */
    private static final class Points {
        final int[] xs = new int[MOST_POINTS];
        final int[] ys = new int[MOST_POINTS];
        int size;

        void add(int x, int y) {
            if (size < MOST_POINTS) {
                xs[size] = x;
                ys[size] = y;
                size++;
            }
        }

        void copyFrom(Points other) {
            size = 0;
            for (int i = 0; i < other.size; i++) {
                add(other.xs[i], other.ys[i]);
            }
        }

        void leaveOutBetween(int i, int j) {
            int kept = i + 1;
            for (int from = j; from < size; from++) {
                xs[kept] = xs[from];
                ys[kept] = ys[from];
                kept++;
            }
            size = kept;
        }

        boolean isNear(int i, int x, int y, int distance) {
            return Math.abs(xs[i] - x) <= distance && Math.abs(ys[i] - y) <= distance;
        }

        boolean hasPointNear(int x, int y, int distance) {
            for (int i = 0; i < size; i++) {
                if (isNear(i, x, y, distance)) {
                    return true;
                }
            }
            return false;
        }

        int sumOfPieces() {
            int sum = 0;
            for (int i = 1; i < size; i++) {
                sum += Math.abs(xs[i] - xs[i - 1]) + Math.abs(ys[i] - ys[i - 1]);
            }
            return sum;
        }

        int twiceArea(int i, int j) {
            int sum = xs[j] * ys[i] - xs[i] * ys[j];
            for (int k = i; k < j; k++) {
                sum += xs[k] * ys[k + 1] - xs[k + 1] * ys[k];
            }
            return Math.abs(sum);
        }

        int sideOf(int x, int y) {
            int above = 0;
            for (int i = 1; i < size; i++) {
                boolean rightwards = xs[i - 1] <= xs[i];
                if (rightwards ? isAbove(i - 1, i, x, y) : isAbove(i, i - 1, x, y)) {
                    above++;
                }
            }
            return above % 2;
        }

        /** The piece between left and right, the x of left being the lesser one. */
        private boolean isAbove(int left, int right, int x, int y) {
            if (x < xs[left] || x >= xs[right]) {
                return false;
            }
            // Both heights are taken times the piece's width: a division would cut.
            int width = xs[right] - xs[left];
            return (ys[right] - ys[left]) * (x - xs[left]) > (y - ys[left]) * width;
        }

        int countCrossings() {
            int found = 0;
            for (int a = 0; a + 1 < size; a++) {
                for (int b = a + 2; b + 1 < size; b++) {
                    if (piecesMeet(a, b)) {
                        found++;
                    }
                }
            }
            return found;
        }

        /** Pieces are called by their first point. The test of the spans settles pieces in one row. */
        private boolean piecesMeet(int a, int b) {
            return spansMeet(xs, a, b) && spansMeet(ys, a, b) && straddles(a, b) && straddles(b, a);
        }

        private static boolean spansMeet(int[] row, int a, int b) {
            return Math.max(row[a], row[a + 1]) >= Math.min(row[b], row[b + 1])
                    && Math.max(row[b], row[b + 1]) >= Math.min(row[a], row[a + 1]);
        }

        /** Whether the ends of piece b are not both on one side of the straight through piece a. */
        private boolean straddles(int a, int b) {
            return turn(a, b) * turn(a, b + 1) <= 0;
        }

        /** 1, 0 or -1: on which side of the straight through piece a point k is. */
        private int turn(int a, int k) {
            int across = (xs[a + 1] - xs[a]) * (ys[k] - ys[a]);
            int along = (ys[a + 1] - ys[a]) * (xs[k] - xs[a]);
            return Integer.compare(across, along);
        }
    }

    /** LOOPS that are noted. */
    private static final class Loops {
        final int[] years = new int[MOST_LOOPS];
        final int[] leftOut = new int[MOST_LOOPS];
        final int[] twiceAreas = new int[MOST_LOOPS];
        int size;

        void note(int year, int points, int twiceArea) {
            if (size < MOST_LOOPS) {
                years[size] = year;
                leftOut[size] = points;
                twiceAreas[size] = twiceArea;
                size++;
            }
        }
    }

    /** A line with its YEAR and LOOPS; the bench has one that is the river, and one for trials. */
    private static final class River {
        final Loops loops = new Loops();
        Points course = new Points();
        private Points spare = new Points();
        int year;

        void restart(Points told) {
            course.copyFrom(told);
            loops.size = 0;
            year = 0;
        }

        /** Parts 1 and 2 of a YEAR; cutNecks is part 3, kept apart for what comes between them. */
        void windOn(Settings settings, int rateNow) {
            year++;
            move(settings, rateNow);
            leaveOutClose();
            fillLong(settings.longest);
        }

        void cutNecks(int near) {
            // A cut only brings the points that are kept closer to one another along the line, so no new
            // neck begins at i or farther upstream: one way down finds all of them in their order.
            for (int i = 0; i + LEAST_PIECES_OF_CUT < course.size; i++) {
                int j = farthestNeck(i, near);
                if (j != NONE) {
                    loops.note(year, j - i - 1, course.twiceArea(i, j));
                    course.leaveOutBetween(i, j);
                }
            }
        }

        private int farthestNeck(int i, int near) {
            // A cut from i to j keeps size - (j - i - 1) points, which may not be too few.
            int last = Math.min(course.size - 1, course.size - LEAST_POINTS + i + 1);
            for (int j = last; j >= i + LEAST_PIECES_OF_CUT; j--) {
                if (course.isNear(j, course.xs[i], course.ys[i], near)) {
                    return j;
                }
            }
            return NONE;
        }

        private void move(Settings settings, int rateNow) {
            int last = course.size - 1;
            spare.size = 0;
            for (int i = 0; i <= last; i++) {
                int x = course.xs[i];
                int y = course.ys[i];
                if (i > 0 && i < last) {
                    int force = rateNow * settings.bankAt(x, y);
                    x = moved(course.xs, i, settings, force);
                    y = moved(course.ys, i, settings, force);
                }
                spare.add(x, y);
            }
            takeSpare();
        }

        private int moved(int[] row, int i, Settings settings, int force) {
            int felt = settings.w0 * bend(row, i)
                    + settings.w1 * bend(row, i - 1)
                    + settings.w2 * bend(row, i - 2);
            int step = clamp(felt * force / MOVE_DIVISOR, -LONGEST_MOVE, LONGEST_MOVE);
            return clamp(row[i] - step, 0, PLAIN_END);
        }

        private int bend(int[] row, int i) {
            if (i < 1 || i > course.size - 2) {
                return 0;
            }
            return row[i - 1] + row[i + 1] - 2 * row[i];
        }

        private void leaveOutClose() {
            int last = course.size - 1;
            int total = course.size;
            spare.size = 0;
            for (int i = 0; i <= last; i++) {
                boolean inner = i > 0 && i < last;
                if (inner && total > LEAST_POINTS && isCloseToKept(course.xs[i], course.ys[i])) {
                    total--;
                } else {
                    spare.add(course.xs[i], course.ys[i]);
                }
            }
            takeSpare();
        }

        private boolean isCloseToKept(int x, int y) {
            return spare.size > 0 && spare.isNear(spare.size - 1, x, y, CLOSE);
        }

        private void fillLong(int longest) {
            int total = course.size;
            spare.size = 0;
            for (int i = 0; i < course.size; i++) {
                int x = course.xs[i];
                int y = course.ys[i];
                if (i > 0 && total < MOST_POINTS && !course.isNear(i - 1, x, y, longest)) {
                    spare.add((course.xs[i - 1] + x) / 2, (course.ys[i - 1] + y) / 2);
                    total++;
                }
                spare.add(x, y);
            }
            takeSpare();
        }

        private void takeSpare() {
            Points old = course;
            course = spare;
            spare = old;
        }
    }

    /** PLOTS and their OWNERS. */
    private static final class Plots {
        final int[] xs = new int[MOST_PLOTS];
        final int[] ys = new int[MOST_PLOTS];
        final int[] owners = new int[MOST_PLOTS];
        final int[] changes = new int[MOST_PLOTS];
        private final int[] sidesBefore = new int[MOST_PLOTS];
        int size;

        /** The number of the new plot; NONE if there is no room for it. */
        int add(int x, int y, int sideNow) {
            if (size >= MOST_PLOTS) {
                return NONE;
            }
            xs[size] = x;
            ys[size] = y;
            owners[size] = sideNow;
            changes[size] = 0;
            size++;
            return size - 1;
        }

        void settle(Points course) {
            for (int k = 0; k < size; k++) {
                owners[k] = course.sideOf(xs[k], ys[k]);
                changes[k] = 0;
            }
        }

        void rememberSides(Points course) {
            for (int k = 0; k < size; k++) {
                sidesBefore[k] = course.sideOf(xs[k], ys[k]);
            }
        }

        void followSides(Points course) {
            for (int k = 0; k < size; k++) {
                int sideNow = course.sideOf(xs[k], ys[k]);
                // Behind a cut the owner may be the one of the new side already: no change then.
                if (sideNow != sidesBefore[k] && sideNow != owners[k]) {
                    owners[k] = sideNow;
                    changes[k]++;
                }
            }
        }
    }

    /** MARKS of old maps, and their TOLERANCE. */
    private static final class Maps {
        final int[] xs = new int[MOST_MARKS];
        final int[] ys = new int[MOST_MARKS];
        final int[] years = new int[MOST_MARKS];
        int size;
        int tolerance = FIRST_TOLERANCE;

        /** The number of the new mark; NONE if there is no room for it. */
        int add(int x, int y, int year) {
            if (size >= MOST_MARKS) {
                return NONE;
            }
            xs[size] = x;
            ys[size] = y;
            years[size] = year;
            size++;
            return size - 1;
        }

        int latestYear() {
            int latest = NONE;
            for (int k = 0; k < size; k++) {
                latest = Math.max(latest, years[k]);
            }
            return latest;
        }

        boolean agree(Points course, int year) {
            for (int k = 0; k < size; k++) {
                if (years[k] == year && !course.hasPointNear(xs[k], ys[k], tolerance)) {
                    return false;
                }
            }
            return true;
        }
    }

    /** The RATES that the latest met() found, the least first. */
    private static final class Rates {
        final int[] values = new int[MOST_RATES];
        int size;

        void add(int found) {
            if (size < MOST_RATES) {
                values[size] = found;
                size++;
            }
        }
    }
}
