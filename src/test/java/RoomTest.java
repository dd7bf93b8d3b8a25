import com.sun.management.ThreadMXBean;
import java.lang.management.ManagementFactory;

/** All calls of one run live in one room: a call makes nothing, but for the exception that it throws. */
public final class RoomTest {
    private static final int OBJECT_BYTES = 64 * 1024;

    private RoomTest() {
    }

    public static void main(String[] args) {
        ThreadMXBean bean = (ThreadMXBean) ManagementFactory.getThreadMXBean();
        long id = Thread.currentThread().getId();
        Due due = new Due();
        use(new UnreadyLead());
        long before = bean.getThreadAllocatedBytes(id);
        UnreadyLead x = new UnreadyLead();
        long made = bean.getThreadAllocatedBytes(id);
        due.same("a new object stays below " + OBJECT_BYTES + " bytes", made - before < OBJECT_BYTES ? 1 : 0, 1);
        Due.federation(x, "person 1 2;person 3 4;person 5 6;person 7 8;person 9 1;person 2 3;person 4 5;person 6 7;"
            + "task 200;task 199;task 198;task 197;task 196;task 195;");
        Due.law(x, "least[most[ready * 7 + boots, hour], 90 - (day + led) % 9] + (person * 3 - packed * feint) / (hour + 1) + ready % (boots + 2)");
        long ready = bean.getThreadAllocatedBytes(id);
        for (int i = 0; i < 40; i++) {
            use(x);
        }
        long used = bean.getThreadAllocatedBytes(id) - ready;
        due.same("calls made " + used + " bytes, far less than one object", used < OBJECT_BYTES / 8 ? 1 : 0, 1);
        due.close("RoomTest");
    }

    /** The dearest calls, and each kind of text. */
    private static void use(UnreadyLead x) {
        x.feed(0x686f7572, 0x3b686f75, 0x723b636f, 0x6d652030, 0x3b202020);
        x.work(x.told(1) == 0 ? 10 : 17);
        x.image();
        x.feed(0x72656164, 0x79202a20, 0x37202b20, 0x626f6f74, 0x73202020);
        x.law(20);
        x.plan((1 << x.told(1)) - 1);
        if (x.told(0) > 0) {
            x.span(5, 20, 96, 9, 0, 0);
            x.waits(7);
            x.busy(1);
            x.hours(2);
            x.soup(3, 255, 200);
            x.gives(0, 63);
        }
        x.ahead(500, 1);
        x.look(0);
        x.next(4);
        x.found(12, 3, 7, 0);
        x.bag(1, 1, 24);
        x.copy(1, 0, 1, 3, 12);
        x.restore();
        x.undo();
    }
}
