import java.lang.management.ManagementFactory;
import java.util.NoSuchElementException;
import java.util.Random;

/** No call throws but where the document says so, one that throws changes nothing, and calls make no objects. */
public final class AnyArgumentsTest {
    private static final Checks CHECKS = new Checks();
    private static final int[] NUMBERS = {
        Integer.MIN_VALUE, Integer.MIN_VALUE + 1, -65536, -2, -1, 0, 1, 2, 3, 4, 7, 8, 9, 10, 19, 20, 21, 30, 32, 47,
        48, 49, 50, 60, 61, 64, 100, 180, 192, 199, 200, 201, 256, 510, 511, 512, 65535, Integer.MAX_VALUE,
    };

    public static void main(String[] args) {
        for (int seed = 0; seed < 400; seed++) {
            anyCalls(new Random(seed));
        }
        throwingChangesNothing();
        callsMakeNoObjects();
        CHECKS.finish();
    }

    private static int any(Random chance) {
        return NUMBERS[chance.nextInt(NUMBERS.length)];
    }

    private static void anyCalls(Random chance) {
        MeanderBench bench = new MeanderBench();
        for (int call = 0; call < 512; call++) {
            int which = chance.nextInt(18);
            int[] n = {any(chance), any(chance), any(chance), any(chance), any(chance), any(chance)};
            boolean mayThrow = which == 6 || which == 8 || which == 11;
            try {
                callOne(bench, which, n);
            } catch (NoSuchElementException e) {
                CHECKS.same("call " + which + " may throw", mayThrow, true);
            } catch (RuntimeException e) {
                CHECKS.same("call " + which + " threw " + e, true, false);
            }
        }
        CHECKS.same("points stay 4 to 48", bench.count(1) >= 4 && bench.count(1) <= 48, true);
    }

    private static long callOne(MeanderBench bench, int which, int[] n) {
        switch (which) {
            case 0: return bench.feed(n[0], n[1], n[2], n[3], n[4]);
            case 1: return bench.end(n[0]) ? 1 : 0;
            case 2: return bench.line() ? 1 : 0;
            case 3: return bench.banks() ? 1 : 0;
            case 4: return bench.set(n[0], n[1], n[2], n[3], n[4], n[5]) ? 1 : 0;
            case 5: return bench.go(n[0]);
            case 6: return bench.point(n[0], n[1]);
            case 7: return bench.crossings();
            case 8: return bench.loop(n[0], n[1]);
            case 9: return bench.side(n[0], n[1]);
            case 10: return bench.plot(n[0], n[1]);
            case 11: return bench.owner(n[0], n[1]);
            case 12: return bench.mark(n[0], n[1], n[2]);
            case 13: return bench.marks(n[0]) ? 1 : 0;
            case 14: return bench.met(n[0], n[1]);
            case 15: return bench.rate(n[0]);
            case 16: return bench.foretold(n[0] > 0);
            default: return bench.count(n[0]);
        }
    }

    private static MeanderBench usedBench() {
        MeanderBench bench = Checks.stillBench(64, 10, 0, 100, 100, 100, 100, 160, 60, 160, 60, 106, 300, 106);
        bench.plot(80, 130);
        bench.mark(0, 100, 3);
        bench.met(0, 4);
        bench.go(3);
        bench.feed(1, 2, 3, 4, 5);
        return bench;
    }

    private static long sumOfState(MeanderBench bench) {
        long sum = 0;
        for (int what = 0; what <= 6; what++) {
            sum = 31 * sum + bench.count(what);
        }
        for (int k = 0; k < bench.count(1); k++) {
            sum = 31 * (31 * sum + bench.point(k, 0)) + bench.point(k, 1);
        }
        for (int what = 0; what <= 2; what++) {
            sum = 31 * (31 * sum + bench.loop(0, what)) + bench.owner(0, what);
        }
        return 31 * sum + bench.rate(4) + bench.foretold(true);
    }

    private static void throwingChangesNothing() {
        MeanderBench bench = usedBench();
        long due = sumOfState(bench);
        for (int a : NUMBERS) {
            for (int b : new int[] {-1, 3, Integer.MAX_VALUE}) {
                CHECKS.noSuch("point(" + a + ", " + b + ")", () -> bench.point(a, b));
                CHECKS.noSuch("loop(" + a + ", " + b + ")", () -> bench.loop(a, b));
                CHECKS.noSuch("owner(" + a + ", " + b + ")", () -> bench.owner(a, b));
            }
        }
        CHECKS.same("the state behind calls that throw", sumOfState(bench), due);
    }

    /** All calls of a run live in one room: only exceptions may be made by calls. */
    private static void callsMakeNoObjects() {
        com.sun.management.ThreadMXBean thread = (com.sun.management.ThreadMXBean) ManagementFactory.getThreadMXBean();
        MeanderBench bench = usedBench();
        int[] n = {0, 0, 1, 1, 9, 9};
        long most = 0;
        thread.getCurrentThreadAllocatedBytes();
        long before = thread.getCurrentThreadAllocatedBytes();
        for (int call = 0; call < 5 * 18; call++) {
            most += callOne(bench, call % 18, n);
        }
        long made = thread.getCurrentThreadAllocatedBytes() - before;
        CHECKS.same("calls answered something", most != 0, true);
        // Some room for what the machine itself makes when code runs first.
        CHECKS.same("bytes made by 90 calls: " + made, made < 2000, true);
    }
}
