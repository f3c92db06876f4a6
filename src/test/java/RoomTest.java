import com.sun.management.ThreadMXBean;
import java.lang.management.ManagementFactory;

/** The dearest calls, 512 of each, make next to nothing: all calls of a run live in one room. */
public final class RoomTest {
    private static final String TOWN = "odds 8;place a;place b;place c;place d;place e;place f;place g;"
        + "walker u;walker v;walker w;walker x;leg u a b east 1 north 2;leg u b c east 1 north 3;leg u c d east 4 north 2;"
        + "leg u d e east 1 north 1;leg u e f east 1 north 7;leg u f g east 1 north 2;leg u g a east 1 north 0;"
        + "leg u a c east 1 north 2;leg u a d east 1 north 5;leg u b e east 1 north 2;leg u c f east 1 north 2;"
        + "leg u d g east 9 north 2;";
    private static final String DAYS = "loop 99;loop 99;when misses 3;any;end;when closed;any;end;any;end;end;";

    private interface Call {
        void on(PacedMap map);
    }

    public static void main(String[] args) {
        ThreadMXBean bean = (ThreadMXBean) ManagementFactory.getThreadMXBean();
        long id = Thread.currentThread().getId();
        Call[] calls = {
            m -> m.out(), m -> m.fits(12), m -> m.ask(12, 1), m -> m.game(4), m -> m.moveOf(4), m -> m.way(0, 6),
            m -> m.told(9), m -> m.live(7), m -> m.mean(0, 20), m -> m.misread(12, 1), m -> m.mark(), m -> m.undo(),
            m -> m.tray(0, 3, 60), m -> m.feed(1, 2, 3, 4, 5), m -> m.town(0), m -> m.days(0), m -> m.copyPlaces(0)
        };
        // What the machine makes for itself comes with the first round.
        for (int round = 0; round < 2; round++) {
            long before = bean.getThreadAllocatedBytes(id);
            PacedMap map = new PacedMap();
            Due.is("an object's bytes are few", bean.getThreadAllocatedBytes(id) - before < 300000, true);
            for (int i = 0; i < calls.length; i++) {
                Due.town(map, TOWN);
                Due.days(map, DAYS);
                before = bean.getThreadAllocatedBytes(id);
                for (int k = 0; k < 512; k++) {
                    calls[i].on(map);
                }
                long made = bean.getThreadAllocatedBytes(id) - before;
                if (round == 1) {
                    Due.is("bytes of call " + i + " are few: " + made, made < 512 * 128, true);
                }
            }
        }
        Due.end("RoomTest");
    }
}
