import java.util.NoSuchElementException;

/** What the tests share: comparing answers, and telling a bench lines and banks by the tape. */
final class Checks {
    private int wrong = 0;
    private int made = 0;
    private String about = "";

    /** What the checks that follow are about: put ahead of what they print. */
    void about(String words) {
        about = words.isEmpty() ? "" : words + ": ";
    }

    int made() {
        return made;
    }

    void same(String call, long got, long due) {
        made++;
        if (got != due) {
            wrong++;
            System.out.println(about + call + " answered " + got + ", due is " + due);
        }
    }

    void same(String call, boolean got, boolean due) {
        same(call, got ? 1 : 0, due ? 1 : 0);
    }

    void noSuch(String call, Runnable run) {
        String thrown = "nothing";
        try {
            run.run();
        } catch (RuntimeException e) {
            thrown = e.getClass().getName();
        }
        made++;
        if (!thrown.equals(NoSuchElementException.class.getName())) {
            wrong++;
            System.out.println(about + call + " threw " + thrown + ", due is NoSuchElementException");
        }
    }

    /** THE LINE of the bench is just these x, y, x, y, .. */
    void line(String when, MeanderBench bench, int... xy) {
        same(when + ": count(1)", bench.count(1), xy.length / 2);
        for (int k = 0; k < xy.length / 2 && k < bench.count(1); k++) {
            same(when + ": point(" + k + ", 0)", bench.point(k, 0), xy[2 * k]);
            same(when + ": point(" + k + ", 1)", bench.point(k, 1), xy[2 * k + 1]);
        }
    }

    void finish() {
        if (made == 0) {
            System.out.println("no checks were made");
            System.exit(1);
        }
        if (wrong != 0) {
            System.out.println(wrong + " of " + made + " answers are not as due");
            System.exit(1);
        }
    }

    /** Feeds just these bytes (0 to 255 each) behind an empty tape; what end() takes away is all 255. */
    static void feedBytes(MeanderBench bench, int... bytes) {
        int[] padded = java.util.Arrays.copyOf(bytes, bytes.length / 20 * 20 + (bytes.length < 200 ? 20 : 0));
        java.util.Arrays.fill(padded, bytes.length, padded.length, 255);
        int[] number = new int[5];
        for (int at = 0; at < padded.length; at += 20) {
            for (int k = 0; k < 5; k++) {
                int from = at + 4 * k;
                number[k] = padded[from] << 24 | padded[from + 1] << 16 | padded[from + 2] << 8 | padded[from + 3];
            }
            bench.feed(number[0], number[1], number[2], number[3], number[4]);
        }
        bench.end(bytes.length);
    }

    static int[] bytesOfLine(int... xy) {
        int[] bytes = new int[2 * xy.length];
        for (int k = 0; k < xy.length; k++) {
            bytes[2 * k] = xy[k] >> 8 & 255;
            bytes[2 * k + 1] = xy[k] & 255;
        }
        return bytes;
    }

    static boolean tellLine(MeanderBench bench, int... xy) {
        feedBytes(bench, bytesOfLine(xy));
        return bench.line();
    }

    static boolean tellBanks(MeanderBench bench, int... banks) {
        feedBytes(bench, banks);
        return bench.banks();
    }

    /** A bench with this line, that moves nothing and has no neck but a very narrow one. */
    static MeanderBench stillBench(int longest, int near, int... xy) {
        MeanderBench bench = new MeanderBench();
        if (!bench.set(0, 4, 2, 1, longest, near) || !tellLine(bench, xy)) {
            throw new IllegalStateException("the test's own line or settings are wrong");
        }
        return bench;
    }
}
