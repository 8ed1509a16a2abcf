import java.util.ArrayList;
import java.util.List;
import java.util.NoSuchElementException;

/** The document once more, in the plainest form and with no eye on room or speed: for comparing. */
final class Model {
    List<int[]> told = new ArrayList<>();
    List<int[]> line = new ArrayList<>();
    List<Integer> tape = new ArrayList<>();
    List<int[]> loops = new ArrayList<>();
    List<int[]> plots = new ArrayList<>(); // x, y, owner, changes
    List<int[]> marks = new ArrayList<>();
    List<Integer> rates = new ArrayList<>();
    int[] banks = new int[64];
    int rate = 50;
    int[] w = {4, 2, 1};
    int length = 32;
    int near = 8;
    int tolerance = 8;
    int year = 0;
    int cuts = 0;

    Model() {
        java.util.Arrays.fill(banks, 5);
        for (int x : new int[] {0, 128, 256, 384, 511}) {
            told.add(new int[] {x, 256});
        }
        line = new ArrayList<>(told);
    }

    int feed(int... numbers) {
        if (tape.size() + 20 > 200) {
            return -1;
        }
        for (int number : numbers) {
            for (byte part : java.nio.ByteBuffer.allocate(4).putInt(number).array()) {
                tape.add(part & 255);
            }
        }
        return tape.size();
    }

    boolean end(int n) {
        if (n < 0 || n > tape.size()) {
            return false;
        }
        tape = new ArrayList<>(tape.subList(0, n));
        return true;
    }

    boolean line() {
        List<Integer> bytes = tape;
        tape = new ArrayList<>();
        if (bytes.size() % 4 != 0 || bytes.size() < 16 || bytes.size() > 192) {
            return false;
        }
        List<int[]> points = new ArrayList<>();
        for (int k = 0; k < bytes.size(); k += 4) {
            int x = 256 * bytes.get(k) + bytes.get(k + 1);
            int y = 256 * bytes.get(k + 2) + bytes.get(k + 3);
            if (x > 511 || y > 511) {
                return false;
            }
            points.add(new int[] {x, y});
        }
        told = points;
        line = new ArrayList<>(points);
        year = 0;
        loops.clear();
        for (int[] plot : plots) {
            plot[2] = sideOf(plot[0], plot[1]);
            plot[3] = 0;
        }
        return true;
    }

    boolean banks() {
        List<Integer> bytes = tape;
        tape = new ArrayList<>();
        if (bytes.size() != 64 || bytes.stream().anyMatch(b -> b > 9)) {
            return false;
        }
        banks = bytes.stream().mapToInt(b -> b).toArray();
        return true;
    }

    boolean set(int newRate, int w0, int w1, int w2, int newLength, int newNear) {
        for (int weight : new int[] {w0, w1, w2}) {
            if (weight < 0 || weight > 9) {
                return false;
            }
        }
        if (newRate < 0 || newRate > 200 || newLength < 8 || newLength > 64 || newNear < 1 || newNear > 32) {
            return false;
        }
        rate = newRate;
        w = new int[] {w0, w1, w2};
        length = newLength;
        near = newNear;
        return true;
    }

    int go(int years) {
        if (years < 0 || years > 200) {
            return -1;
        }
        int until = Math.min(999, year + years);
        while (year < until) {
            passYear();
        }
        return year;
    }

    private void passYear() {
        year++;
        int[] before = plots.stream().mapToInt(p -> sideOf(p[0], p[1])).toArray();
        moveAll();
        thin();
        fill();
        for (int k = 0; k < plots.size(); k++) {
            int[] plot = plots.get(k);
            int now = sideOf(plot[0], plot[1]);
            if (now != before[k]) {
                if (plot[2] != now) {
                    plot[3]++;
                }
                plot[2] = now;
            }
        }
        while (cutOnce()) {
            cuts++;
        }
    }

    private void moveAll() {
        int n = line.size();
        int[][] bends = new int[n][2];
        for (int i = 1; i < n - 1; i++) {
            for (int c = 0; c < 2; c++) {
                bends[i][c] = line.get(i - 1)[c] + line.get(i + 1)[c] - 2 * line.get(i)[c];
            }
        }
        List<int[]> moved = new ArrayList<>();
        for (int i = 0; i < n; i++) {
            int[] p = line.get(i).clone();
            int bank = banks[line.get(i)[0] / 64 + 8 * (line.get(i)[1] / 64)];
            for (int c = 0; c < 2 && i > 0 && i < n - 1; c++) {
                long felt = 0;
                for (int back = 0; back < 3 && i - back >= 0; back++) {
                    felt += (long) w[back] * bends[i - back][c];
                }
                long product = felt * rate * bank;
                long size = Math.min(8, Math.abs(product) / 10000);
                p[c] = (int) Math.max(0, Math.min(511, p[c] - Long.signum(product) * size));
            }
            moved.add(p);
        }
        line = moved;
    }

    private void thin() {
        for (int i = 1; i < line.size() - 1 && line.size() > 4;) {
            int[] a = line.get(i - 1);
            int[] b = line.get(i);
            if (Math.abs(a[0] - b[0]) < 4 && Math.abs(a[1] - b[1]) < 4) {
                line.remove(i);
            } else {
                i++;
            }
        }
    }

    private void fill() {
        for (int i = 0; i + 1 < line.size() && line.size() < 48; i++) {
            int[] a = line.get(i);
            int[] b = line.get(i + 1);
            if (Math.abs(a[0] - b[0]) > length || Math.abs(a[1] - b[1]) > length) {
                line.add(i + 1, new int[] {(a[0] + b[0]) / 2, (a[1] + b[1]) / 2});
                i++;
            }
        }
    }

    private boolean cutOnce() {
        int bestI = -1;
        int bestJ = -1;
        for (int i = line.size() - 1; i >= 0; i--) {
            for (int j = i + 3; j < line.size(); j++) {
                boolean close = Math.abs(line.get(i)[0] - line.get(j)[0]) <= near
                        && Math.abs(line.get(i)[1] - line.get(j)[1]) <= near;
                if (close && line.size() - (j - i - 1) >= 4) {
                    bestI = i;
                    bestJ = j;
                }
            }
        }
        if (bestI < 0) {
            return false;
        }
        List<int[]> ring = new ArrayList<>(line.subList(bestI, bestJ + 1));
        ring.add(line.get(bestI));
        int twice = 0;
        for (int k = 0; k + 1 < ring.size(); k++) {
            twice += (ring.get(k + 1)[0] - ring.get(k)[0]) * (ring.get(k + 1)[1] + ring.get(k)[1]);
        }
        if (loops.size() < 30) {
            loops.add(new int[] {year, bestJ - bestI - 1, Math.abs(twice)});
        }
        line.subList(bestI + 1, bestJ).clear();
        return true;
    }

    int point(int k, int what) {
        return pick(line, k, what, 2);
    }

    private static int pick(List<int[]> rows, int k, int what, int columns) {
        if (k < 0 || k >= rows.size() || what < 0 || what >= columns) {
            throw new NoSuchElementException();
        }
        return rows.get(k)[what];
    }

    int crossings() {
        int found = 0;
        for (int a = 0; a + 1 < line.size(); a++) {
            for (int b = a + 2; b + 1 < line.size(); b++) {
                if (meet(line.get(a), line.get(a + 1), line.get(b), line.get(b + 1))) {
                    found++;
                }
            }
        }
        return found;
    }

    /** By the place itself: a + t (b - a) = c + u (d - c), t and u from 0 to 1. */
    private static boolean meet(int[] a, int[] b, int[] c, int[] d) {
        int rx = b[0] - a[0];
        int ry = b[1] - a[1];
        int sx = d[0] - c[0];
        int sy = d[1] - c[1];
        int det = rx * sy - ry * sx;
        if (det == 0) {
            return isOn(a, c, d) || isOn(b, c, d) || isOn(c, a, b) || isOn(d, a, b);
        }
        int qx = c[0] - a[0];
        int qy = c[1] - a[1];
        int t = (qx * sy - qy * sx) * Integer.signum(det);
        int u = (qx * ry - qy * rx) * Integer.signum(det);
        return t >= 0 && t <= Math.abs(det) && u >= 0 && u <= Math.abs(det);
    }

    private static boolean isOn(int[] p, int[] a, int[] b) {
        int abx = b[0] - a[0];
        int aby = b[1] - a[1];
        int apx = p[0] - a[0];
        int apy = p[1] - a[1];
        int along = abx * apx + aby * apy;
        boolean between = along >= 0 && along <= abx * abx + aby * aby;
        boolean atEnd = (apx == 0 && apy == 0) || (p[0] == b[0] && p[1] == b[1]);
        return atEnd || (abx != 0 || aby != 0) && abx * apy == aby * apx && between;
    }

    int loop(int k, int what) {
        return pick(loops, k, what, 3);
    }

    private int sideOf(int x, int y) {
        int above = 0;
        for (int k = 0; k + 1 < line.size(); k++) {
            int[] a = line.get(k);
            int[] b = line.get(k + 1);
            if (x >= Math.min(a[0], b[0]) && x < Math.max(a[0], b[0])) {
                double height = a[1] + (b[1] - a[1]) * (double) (x - a[0]) / (b[0] - a[0]);
                // Heights are whole numbers by 511 at most, far coarser than this.
                if (height - y > 1e-6) {
                    above++;
                }
            }
        }
        return above & 1;
    }

    int side(int x, int y) {
        return x < 0 || x > 510 || y < 0 || y > 511 ? -1 : sideOf(x, y);
    }

    int plot(int x, int y) {
        if (plots.size() == 20 || side(x, y) == -1) {
            return -1;
        }
        plots.add(new int[] {x, y, side(x, y), 0});
        return plots.size() - 1;
    }

    int owner(int k, int what) {
        int change = pick(plots, k, 3, 4);
        switch (what) {
            case 0: return plots.get(k)[2];
            case 1: return sideOf(plots.get(k)[0], plots.get(k)[1]);
            case 2: return change;
            default: throw new NoSuchElementException();
        }
    }

    int mark(int x, int y, int markYear) {
        if (marks.size() == 30 || x < 0 || x > 511 || y < 0 || y > 511 || markYear < 0 || markYear > 60) {
            return -1;
        }
        marks.add(new int[] {x, y, markYear});
        return marks.size() - 1;
    }

    boolean marks(int newTolerance) {
        if (newTolerance < 0 || newTolerance > 50) {
            return false;
        }
        marks.clear();
        tolerance = newTolerance;
        return true;
    }

    private Model fromBeginning(int otherRate) {
        Model model = new Model();
        model.line = new ArrayList<>(told);
        model.banks = banks;
        model.w = w;
        model.length = length;
        model.near = near;
        model.rate = otherRate;
        return model;
    }

    private boolean isMet(int tried) {
        Model model = fromBeginning(tried);
        for (int at = 0; at <= 60; at++) {
            if (at > 0) {
                model.go(1);
            }
            for (int[] mark : marks) {
                boolean had = model.line.stream().anyMatch(p ->
                        Math.abs(p[0] - mark[0]) <= tolerance && Math.abs(p[1] - mark[1]) <= tolerance);
                if (mark[2] == at && !had) {
                    return false;
                }
            }
        }
        return true;
    }

    int met(int low, int high) {
        if (low < 0 || low > high || high > 200 || high - low + 1 > 20) {
            return -1;
        }
        rates.clear();
        for (int tried = low; tried <= high; tried++) {
            if (isMet(tried)) {
                rates.add(tried);
            }
        }
        return rates.size();
    }

    int rate(int k) {
        return k < 0 || k >= rates.size() ? -1 : rates.get(k);
    }

    int foretold(boolean most) {
        List<Integer> years = new ArrayList<>();
        for (int met : rates) {
            Model model = fromBeginning(met);
            while (model.cuts == 0 && model.year < 61) {
                model.go(1);
            }
            years.add(model.cuts == 0 ? 61 : model.year);
        }
        years.sort(null);
        return years.isEmpty() ? -1 : years.get(most ? years.size() - 1 : 0);
    }

    int count(int what) {
        int sum = 0;
        for (int k = 0; k + 1 < line.size(); k++) {
            sum += Math.abs(line.get(k)[0] - line.get(k + 1)[0]) + Math.abs(line.get(k)[1] - line.get(k + 1)[1]);
        }
        int[] all = {year, line.size(), loops.size(), plots.size(), marks.size(), sum, tape.size()};
        return what < 0 || what >= all.length ? -1 : all[what];
    }
}
