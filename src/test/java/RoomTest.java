import com.sun.management.ThreadMXBean;
import java.lang.management.ManagementFactory;
import java.util.Random;

/** The room of a run: an object takes little, and no call makes anything. */
public final class RoomTest {
    private static final int OBJECTS = 200;
    private static final int CALLS = 512;
    private static final Check check = new Check("RoomTest");
    private static int sum;

    public static void main(String[] args) {
        ThreadMXBean bean = (ThreadMXBean) ManagementFactory.getThreadMXBean();
        GridTracks[] all = new GridTracks[OBJECTS];
        bean.getCurrentThreadAllocatedBytes();
        long before = bean.getCurrentThreadAllocatedBytes();
        for (int k = 0; k < OBJECTS; k++) {
            all[k] = new GridTracks();
        }
        long made = bean.getCurrentThreadAllocatedBytes();
        Random random = new Random(5);
        long started = bean.getCurrentThreadAllocatedBytes();
        for (GridTracks x : all) {
            tell(x, "cols auto flex 2 fix 3 auto;gap 1 2;");
            for (int k = 0; k < CALLS - 40; k++) {
                sum += call(x, random.nextInt(32), random.nextInt(6) - 1, random.nextInt(5), random.nextInt(5));
            }
        }
        long ended = bean.getCurrentThreadAllocatedBytes();
        check.holds("an object takes at most 8000 bytes: " + (made - before) / OBJECTS, made - before <= 8000L * OBJECTS);
        check.holds("calls make nothing: " + (ended - started), ended - started < 20000);
        check.end();
    }

    private static void tell(GridTracks x, String text) {
        for (int k = 0; k < text.length(); k++) {
            x.feed(text.charAt(k));
        }
        x.text();
    }

    private static int call(GridTracks x, int which, int a, int b, int c) {
        switch (which) {
            case 0: return x.feed(a);
            case 1: return x.end(a);
            case 2: return a < 0 ? x.text() : 0;
            case 3: return x.fault();
            case 4: return x.rule(a);
            case 5: return x.column(a, b);
            case 6: return x.row(a, b);
            case 7: return x.item(a, b);
            case 8: return x.line(a);
            case 9: return x.at(a, b);
            case 10: return x.box(a, b);
            case 11: return x.over(a, b);
            case 12: return x.total(a);
            case 13: return x.empty();
            case 14: return x.hole(a, b);
            case 15: return x.add(a, b, c, c);
            case 16: return x.drop(a);
            case 17: return x.pin(a, b, c);
            case 18: return x.set(a, b, c);
            case 19: return x.swap(a, b);
            case 20: return x.track(a, b, c);
            case 21: return x.width(a);
            case 22: return x.gap(a, b);
            case 23: return x.high(a);
            case 24: return x.scatter(a, b);
            case 25: return x.keep(a);
            case 26: return x.back(a);
            case 27: return x.sheet(a, b, c);
            case 28: return x.lay(a, b, c);
            case 29: return x.read(a, b, c, c);
            case 30: return x.torn();
            default: return x.count(a);
        }
    }
}
