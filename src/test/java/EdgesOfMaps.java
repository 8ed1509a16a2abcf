/** Boundary cases of MAPS, MET and FORETOLD, and of promises 14 to 18. */
final class EdgesOfMaps {
    private static final String TERMS = "Terms";
    private static final int CLIMBS_FROM = 165;

    private final Checks checks;

    EdgesOfMaps(Checks checks) {
        this.checks = checks;
    }

    void test(Sentences s) {
        s.holds(TERMS, "30 MARKS at most", this::thirtyMarks);
        s.holds(TERMS, "a place that THE LINE had in a YEAR (0 to 60).", this::firstAndLastMarkYear);
        s.holds("Promise 14: mark", "One more MARK: its number", this::markNumbers);
        s.holds("Promise 14: mark", "NONE: there are 30, or it is not as told.", this::noMark);
        s.holds(TERMS, "TOLERANCE 0 to 50 (8 at first).", this::tolerances);
        s.holds("Promise 15: marks", "MARKS are none any more, TOLERANCE is another one: true", this::marksAreGone);
        s.holds("Promise 15: marks", "false, if it is not as told.", this::wrongTolerances);
        s.holds(TERMS, "has in each MARK's YEAR a POINT of which x and y both differ from the MARK by TOLERANCE at most.",
                this::toleranceAtMost);
        s.holds(TERMS, "THE LINE as it was told, with SETTINGS of now but this RATE, and BANKS of now", this::ofNow);
        s.holds("Promise 16: met", "How many RATES from low to high are MET", this::noneOneAndTwenty);
        s.holds("Promise 16: met", "NONE: they are not 0 <= low <= high <= 200, or more than 20.", this::wrongRates);
        s.holds("Promise 17: rate", "The k-th RATE (0 the least) of the latest met() that was not NONE", this::ratesInOrder);
        s.holds("Promise 17: rate", "NONE: there is none such, or ahead of any.", this::noRate);
        s.holds(TERMS, "the first YEAR with a CUT, when THE LINE goes on from the beginning so.", this::firstYearWithCut);
        String foretold = "Promise 18: foretold";
        s.holds(foretold, "FORETOLD by the RATES of the latest met() that was not NONE", this::byTheLatestRates);
        s.holds(foretold, "up to YEAR 60", this::upToYearSixty);
        s.holds(foretold, "the least YEAR of any (most false), the greatest", this::leastAndGreatest);
        s.holds(foretold, "61 for one without a CUT up to then", this::withoutACut);
        s.holds(foretold, "NONE: there are none.", this::noRates);
    }

    /**
     * A line whose point 1 climbs by 1 a YEAR from 100 165 by a rate of 77 to 80, and does not move by 76 or
     * less: its bend is 130 and 2 more each YEAR, its bank 1, and all others have bank 0 or no bend. There are
     * 48 points, so that none comes between. At this height, a row far down the line passes above it.
     */
    private static int[] climber(int height) {
        int[] xy = new int[96];
        int at = put(xy, 0, 90, 100);
        at = put(xy, at, 100, CLIMBS_FROM);
        for (int x = 110; x <= 150; x += 10) {
            at = put(xy, at, x, 100);
        }
        // Twelve points up, the same for any height.
        for (int k = 1; k <= 12; k++) {
            at = put(xy, at, 150, 100 + k * (height - 100) / 13);
        }
        for (int x = 150; x >= 10; x -= 10) {
            at = put(xy, at, x, height);
        }
        for (int y = height + 10; at < xy.length; y += 10) {
            at = put(xy, at, 10, y);
        }
        return xy;
    }

    private static int put(int[] xy, int at, int x, int y) {
        xy[at] = x;
        xy[at + 1] = y;
        return at + 2;
    }

    /** Near 1: the first cut is in the YEAR in which point 1 is 1 below the row. */
    private MeanderBench climbing(int height) {
        MeanderBench bench = new MeanderBench();
        int[] banks = new int[64];
        for (int row = 2; row <= 4; row++) {
            banks[1 + 8 * row] = 1;
        }
        checks.same("banks()", Checks.tellBanks(bench, banks), true);
        checks.same("set()", bench.set(0, 1, 0, 0, 64, 1), true);
        checks.same("line()", Checks.tellLine(bench, climber(height)), true);
        bench.marks(0);
        return bench;
    }

    private void thirtyMarks() {
        MeanderBench bench = new MeanderBench();
        for (int k = 0; k < 30; k++) {
            checks.same("mark", bench.mark(0, 256, 0), k);
        }
        checks.same("the 31st, which no line would meet", bench.mark(0, 0, 0), -1);
        checks.same("count(4)", bench.count(4), 30);
        checks.same("the 30 are met", bench.met(0, 0), 1);
        bench.marks(8);
        for (int k = 0; k < 29; k++) {
            bench.mark(0, 256, 0);
        }
        checks.same("29 are met", bench.met(0, 0), 1);
        checks.same("the 30th, which no line would meet", bench.mark(0, 0, 0), 29);
        checks.same("the 30th is of account", bench.met(0, 0), 0);
    }

    private void firstAndLastMarkYear() {
        MeanderBench bench = climbing(300);
        // 100 165 in YEAR 0, 100 225 in YEAR 60.
        checks.same("YEAR 0", bench.mark(100, 165, 0), 0);
        checks.same("YEAR 60", bench.mark(100, 225, 60), 1);
        checks.same("rates from 77 to 80", bench.met(70, 80), 4);
        checks.same("the least", bench.rate(0), 77);
        bench.marks(0);
        bench.mark(100, 225, 59);
        checks.same("not in YEAR 59", bench.met(77, 80), 0);
        bench.marks(0);
        bench.mark(100, 164, 0);
        checks.same("not in YEAR 0", bench.met(77, 80), 0);
        for (int year = 0; year <= 60; year++) {
            bench.marks(0);
            bench.mark(100, CLIMBS_FROM + year, year);
            checks.same("in YEAR " + year, bench.met(76, 77), year == 0 ? 2 : 1);
        }
    }

    private void markNumbers() {
        MeanderBench bench = new MeanderBench();
        checks.same("the first one", bench.mark(0, 0, 0), 0);
        checks.same("the same one again", bench.mark(0, 0, 0), 1);
        checks.same("one that is refused", bench.mark(0, 0, 61), -1);
        checks.same("the next one", bench.mark(511, 511, 60), 2);
        checks.same("count(4)", bench.count(4), 3);
    }

    private void noMark() {
        int[][] wrong = {{-1, 0, 0}, {512, 0, 0}, {0, -1, 0}, {0, 512, 0}, {0, 0, -1}, {0, 0, 61}, {0, 0, 999},
            {Integer.MIN_VALUE, 0, 0}, {Integer.MAX_VALUE, 0, 0}, {0, Integer.MIN_VALUE, 0}, {0, Integer.MAX_VALUE, 0},
            {0, 0, Integer.MIN_VALUE}, {0, 0, Integer.MAX_VALUE}};
        MeanderBench bench = new MeanderBench();
        for (int[] w : wrong) {
            checks.same("mark(" + w[0] + ", " + w[1] + ", " + w[2] + ")", bench.mark(w[0], w[1], w[2]), -1);
            checks.same("count(4)", bench.count(4), 0);
        }
        checks.same("those refused are of no account", bench.met(0, 0), 1);
        for (int k = 0; k < 30; k++) {
            bench.mark(0, 0, 0);
        }
        checks.same("there are 30", bench.mark(0, 0, 0), -1);
        checks.same("there are 30, and wrong", bench.mark(512, 0, 0), -1);
        checks.same("count(4)", bench.count(4), 30);
    }

    private static int metAt(MeanderBench bench, int x, int y) {
        bench.mark(x, y, 0);
        return bench.met(0, 0);
    }

    private void tolerances() {
        checks.same("8 at first: 8 off", metAt(new MeanderBench(), 8, 264), 1);
        checks.same("8 at first: 9 off by x", metAt(new MeanderBench(), 9, 256), 0);
        checks.same("8 at first: 9 off by y", metAt(new MeanderBench(), 0, 247), 0);
        for (int tolerance : new int[] {0, 1, 49, 50}) {
            MeanderBench bench = new MeanderBench();
            checks.same("marks(" + tolerance + ")", bench.marks(tolerance), true);
            checks.same("so far off", metAt(bench, tolerance, 256), 1);
            checks.same("one farther off", metAt(bench, tolerance + 1, 256), 0);
        }
    }

    private void marksAreGone() {
        MeanderBench bench = new MeanderBench();
        checks.same("none, and the same tolerance", bench.marks(8), true);
        checks.same("the same tolerance", metAt(bench, 8, 256), 1);
        for (int k = 0; k < 29; k++) {
            bench.mark(0, 0, 0);
        }
        checks.same("30 marks", bench.count(4), 30);
        checks.same("marks(0)", bench.marks(0), true);
        checks.same("count(4)", bench.count(4), 0);
        checks.same("none is of account", bench.met(0, 0), 1);
        checks.same("the numbers begin again", bench.mark(0, 256, 0), 0);
        checks.same("marks(50)", bench.marks(50), true);
        checks.same("another tolerance", metAt(bench, 50, 206), 1);
    }

    private void wrongTolerances() {
        for (int wrong : new int[] {-1, 51, Integer.MIN_VALUE, Integer.MAX_VALUE}) {
            MeanderBench bench = new MeanderBench();
            bench.marks(20);
            bench.mark(20, 256, 0);
            checks.same("marks(" + wrong + ")", bench.marks(wrong), false);
            checks.same("count(4)", bench.count(4), 1);
            checks.same("20 still", bench.met(0, 0), 1);
            checks.same("no more than 20", metAt(bench, 21, 256), 0);
        }
    }

    private void toleranceAtMost() {
        MeanderBench bench = Checks.stillBench(64, 1, 200, 200, 200, 200, 200, 200, 200, 200);
        for (int t : new int[] {0, 1, 8, 50}) {
            int[][] met = {{t, 0}, {-t, 0}, {0, t}, {0, -t}, {t, t}, {-t, -t}, {t, -t}, {-t, t}};
            int u = t + 1;
            int[][] not = {{u, 0}, {-u, 0}, {0, u}, {0, -u}, {u, t}, {t, u}, {-u, -t}, {-t, -u}};
            for (int k = 0; k < 8; k++) {
                bench.marks(t);
                checks.same("off by " + met[k][0] + ", " + met[k][1], metAt(bench, 200 + met[k][0], 200 + met[k][1]), 1);
                bench.marks(t);
                checks.same("off by " + not[k][0] + ", " + not[k][1], metAt(bench, 200 + not[k][0], 200 + not[k][1]), 0);
            }
        }
        // One point is near by x, another one by y; both marks of a YEAR count, whatever their order.
        MeanderBench two = Checks.stillBench(64, 1, 0, 0, 100, 50, 50, 100, 200, 200);
        two.marks(0);
        checks.same("x of one, y of another", metAt(two, 100, 100), 0);
        two.marks(0);
        checks.same("one mark", metAt(two, 100, 50), 1);
        checks.same("and another one", metAt(two, 50, 100), 1);
        checks.same("and one that is not met", metAt(two, 51, 100), 0);
        checks.same("and one more that is", metAt(two, 200, 200), 0);
        behindTheCutsOfAYear();
    }

    private void behindTheCutsOfAYear() {
        MeanderBench bench = Checks.stillBench(64, 10, 0, 100, 100, 100, 100, 160, 60, 160, 60, 106, 300, 106);
        bench.marks(0);
        checks.same("a point of YEAR 0", metAt(bench, 100, 160), 1);
        bench.mark(60, 106, 1);
        checks.same("one that YEAR 1 keeps", bench.met(0, 0), 1);
        bench.mark(100, 160, 1);
        checks.same("one that YEAR 1 cuts off", bench.met(0, 0), 0);
    }

    private void ofNow() {
        MeanderBench bench = climbing(300);
        bench.mark(100, 225, 60);
        for (int rate : new int[] {0, 77, 200}) {
            bench.set(rate, 1, 0, 0, 64, 1);
            checks.same("but this RATE: not " + rate, bench.met(76, 81), 4);
        }
        bench.go(200);
        checks.same("as it was told: not of YEAR 200", bench.met(76, 81), 4);
        bench.set(0, 2, 0, 0, 64, 1);
        checks.same("twice the weight: half of the rates", bench.met(30, 49), 2);
        checks.same("39 and 40", bench.rate(0), 39);
        int[] banks = new int[64];
        for (int row = 2; row <= 4; row++) {
            banks[1 + 8 * row] = 2;
        }
        Checks.tellBanks(bench, banks);
        checks.same("and twice the bank", bench.met(10, 29), 1);
        checks.same("20", bench.rate(0), 20);
        Checks.tellLine(bench, climber(301));
        checks.same("the same climb on another line", bench.met(10, 29), 1);
        Checks.tellLine(bench, 0, 0, 10, 0, 20, 0, 30, 0);
        checks.same("a line without it", bench.met(10, 29), 0);
    }

    private void noneOneAndTwenty() {
        MeanderBench bench = new MeanderBench();
        checks.same("the least one", bench.met(0, 0), 1);
        checks.same("the greatest one", bench.met(200, 200), 1);
        checks.same("20 from the least", bench.met(0, 19), 20);
        checks.same("20 to the greatest", bench.met(181, 200), 20);
        MeanderBench climbing = climbing(300);
        climbing.mark(100, 225, 60);
        checks.same("the least one that is met is the last one", climbing.met(58, 77), 1);
        checks.same("the greatest one that is met is the first one", climbing.met(80, 99), 1);
        checks.same("none below", climbing.met(57, 76), 0);
        checks.same("none above", climbing.met(81, 100), 0);
        checks.same("all four", climbing.met(77, 80), 4);
    }

    private void wrongRates() {
        int[][] wrong = {{-1, 0}, {-1, -1}, {1, 0}, {200, 199}, {201, 201}, {200, 201}, {182, 201}, {0, 20}, {180, 200},
            {0, 200}, {201, 200}, {0, -1}, {Integer.MIN_VALUE, 0}, {0, Integer.MAX_VALUE}, {Integer.MIN_VALUE, 200},
            {Integer.MIN_VALUE, Integer.MAX_VALUE}, {Integer.MAX_VALUE, Integer.MIN_VALUE}, {-2147483640, 5},
            {Integer.MIN_VALUE, Integer.MIN_VALUE}, {Integer.MAX_VALUE, Integer.MAX_VALUE}};
        MeanderBench bench = new MeanderBench();
        bench.met(3, 4);
        for (int[] w : wrong) {
            checks.same("met(" + w[0] + ", " + w[1] + ")", bench.met(w[0], w[1]), -1);
            checks.same("the rates stay", bench.rate(0) == 3 && bench.rate(1) == 4 && bench.rate(2) == -1, true);
        }
    }

    private void ratesInOrder() {
        MeanderBench bench = climbing(300);
        bench.met(181, 200);
        for (int k = 0; k < 20; k++) {
            checks.same("rate(" + k + ")", bench.rate(k), 181 + k);
        }
        bench.mark(100, 225, 60);
        bench.met(70, 89);
        for (int k = 0; k < 4; k++) {
            checks.same("rate(" + k + ") of those met", bench.rate(k), 77 + k);
        }
        checks.same("met() that is NONE", bench.met(0, 20), -1);
        checks.same("rate(3) behind it", bench.rate(3), 80);
        bench.go(5);
        bench.marks(3);
        bench.set(1, 1, 1, 1, 8, 1);
        Checks.tellLine(bench, 0, 0, 10, 0, 20, 0, 30, 0);
        Checks.tellBanks(bench, new int[64]);
        checks.same("rate(3) behind all of these", bench.rate(3), 80);
    }

    private void noRate() {
        MeanderBench bench = climbing(300);
        int[] never = {-1, 20, 21, Integer.MIN_VALUE, Integer.MAX_VALUE};
        checks.same("rate(0) ahead of any", bench.rate(0), -1);
        bench.met(0, 20);
        checks.same("rate(0) behind a met() that is NONE", bench.rate(0), -1);
        bench.met(0, 19);
        for (int k : never) {
            checks.same("rate(" + k + ") of 20", bench.rate(k), -1);
        }
        bench.met(9, 9);
        checks.same("rate(0) of one", bench.rate(0), 9);
        checks.same("rate(1) of one", bench.rate(1), -1);
        bench.mark(100, 225, 60);
        bench.met(0, 19);
        checks.same("rate(0) of none", bench.rate(0), -1);
        for (int k : never) {
            checks.same("rate(" + k + ") of none", bench.rate(k), -1);
        }
    }

    private void foretold(String when, MeanderBench bench, int least, int greatest) {
        checks.same(when + ": foretold(false)", bench.foretold(false), least);
        checks.same(when + ": foretold(true)", bench.foretold(true), greatest);
    }

    private void firstYearWithCut() {
        for (int year : new int[] {1, 2, 59}) {
            MeanderBench bench = climbing(CLIMBS_FROM + year + 1);
            bench.met(77, 77);
            foretold("a cut in YEAR " + year, bench, year, year);
            bench.set(77, 1, 0, 0, 64, 1);
            bench.go(200);
            checks.same("the YEAR of the loop", bench.loop(0, 0), year);
            foretold("from the beginning, not from YEAR 200", bench, year, year);
        }
        // Two cuts in one YEAR, and others in each YEAR behind it: the first YEAR alone is told.
        MeanderBench many = Checks.stillBench(8, 32, 0, 0, 20, 0, 40, 0, 60, 0);
        many.met(0, 0);
        foretold("a cut in each YEAR", many, 1, 1);
        many.go(40);
        foretold("30 loops of the river's own", many, 1, 1);
    }

    private void byTheLatestRates() {
        MeanderBench bench = climbing(200);
        bench.met(77, 78);
        foretold("rates that climb", bench, 34, 34);
        checks.same("met() that is NONE", bench.met(0, 20), -1);
        foretold("the same rates", bench, 34, 34);
        bench.met(75, 76);
        foretold("rates that do not", bench, 61, 61);
        bench.mark(100, 166, 1);
        bench.met(75, 78);
        foretold("those that are met alone", bench, 34, 34);
        bench.marks(0);
        foretold("marks that are gone later", bench, 34, 34);
        Checks.tellLine(bench, climber(201));
        foretold("a line of now", bench, 35, 35);
        bench.set(0, 1, 0, 0, 64, 2);
        foretold("settings of now", bench, 34, 34);
        Checks.tellBanks(bench, new int[64]);
        foretold("banks of now", bench, 61, 61);
    }

    private void upToYearSixty() {
        MeanderBench bench = climbing(226);
        bench.met(77, 80);
        foretold("a cut in YEAR 60", bench, 60, 60);
        bench = climbing(227);
        bench.met(77, 80);
        foretold("a cut in YEAR 61", bench, 61, 61);
        bench = climbing(228);
        bench.met(77, 78);
        foretold("a cut in YEAR 62", bench, 61, 61);
        bench.set(77, 1, 0, 0, 64, 1);
        bench.go(61);
        checks.same("no loop in YEAR 61", bench.count(2), 0);
        bench.go(1);
        checks.same("a loop in YEAR 62", bench.loop(0, 0), 62);
    }

    private void leastAndGreatest() {
        MeanderBench bench = climbing(200);
        bench.met(76, 76);
        foretold("one that does not climb", bench, 61, 61);
        bench.met(77, 77);
        foretold("one that climbs", bench, 34, 34);
        bench.met(76, 77);
        foretold("the least one is the later one", bench, 34, 61);
        bench.met(77, 96);
        // 96 times 130 is 1, but 2 from a bend of 209 on: never in 34 YEARS.
        foretold("all of them climb by 1", bench, 34, 34);
        bench.met(153, 154);
        // 153: 166, 168, .. 198, 200: by 1 in YEAR 1, as its bend is 130, then by 2. 154: 167, 169, .. 199.
        foretold("1 or 2 in YEAR 1", bench, 17, 18);
        bench.met(153, 153);
        foretold("1 in YEAR 1", bench, 18, 18);
        bench.met(154, 154);
        foretold("2 in YEAR 1", bench, 17, 17);
        MeanderBench low = climbing(167);
        low.met(153, 154);
        foretold("166 in YEAR 1 by 1, 167 by 2", low, 1, 1);
        MeanderBench next = climbing(169);
        next.met(76, 95);
        foretold("none, and by 1 a YEAR", next, 3, 61);
        next.met(153, 154);
        // 153: 166, 168; 154: 167, 169: both are near enough in YEAR 2.
        foretold("by 2 a YEAR", next, 2, 2);
        next.met(141, 160);
        foretold("by 1, by 2", next, 2, 3);
    }

    private void withoutACut() {
        MeanderBench bench = new MeanderBench();
        bench.met(181, 200);
        foretold("a straight line", bench, 61, 61);
        bench = climbing(200);
        bench.met(57, 76);
        foretold("20 rates that do not climb", bench, 61, 61);
        bench.met(58, 77);
        foretold("19 of them", bench, 34, 61);
    }

    private void noRates() {
        MeanderBench bench = climbing(200);
        foretold("ahead of any met()", bench, -1, -1);
        bench.met(1, 0);
        foretold("behind a met() that is NONE", bench, -1, -1);
        bench.met(77, 77);
        foretold("one", bench, 34, 34);
        bench.mark(0, 0, 0);
        checks.same("met()", bench.met(77, 77), 0);
        foretold("none", bench, -1, -1);
        bench.met(1, 0);
        foretold("none, and a met() that is NONE", bench, -1, -1);
    }
}
