import java.lang.management.ManagementFactory;

/** How much a new object and its dearest calls make: all calls of a run live in one room that is never swept. */
public final class RoomTest {
    private static final com.sun.management.ThreadMXBean MADE =
        (com.sun.management.ThreadMXBean) ManagementFactory.getThreadMXBean();
    private static int wrong = 0;

    private static long made() {
        return MADE.getThreadAllocatedBytes(Thread.currentThread().getId());
    }

    private static void atMost(String what, long bytes, long most) {
        System.out.println(what + ": " + bytes + " bytes");
        if (bytes > most) {
            wrong++;
            System.out.println("  more than " + most);
        }
    }

    private static void tellLaw(FiveStars x) {
        x.feed(0x73686f77, 0x206d2b77, 0x2b632b6d);
        for (int i = 0; i < 7; i++) {
            x.feed(0x2b6d2b77, 0x2b632b6d, 0x2b6d2b77);
        }
        x.text();
    }

    private static void callAll(FiveStars x, int i) {
        x.group(1, 999);
        x.wave(5, 0);
        x.changed(0, 0);
        x.bound(0);
        x.shelf(0);
        x.buy(20, i);
        x.keep();
        x.check(30, i);
        x.back();
        x.sheet(0, 1, 24);
        x.lay(0, 2, 0);
        x.lay(1, 1, 0);
        x.clean(9);
        x.job(0, 12, 0, 1);
        x.mean(0, 2);
        x.alike(0, 1, 5);
    }

    private static FiveStars filled() {
        FiveStars x = new FiveStars();
        for (int i = 0; i < 12; i++) {
            x.thing(10 * i);
            x.name(i);
        }
        x.job(0, 12, 0, 5);
        return x;
    }

    public static void main(String[] args) {
        // Once for the machine's own making of classes.
        callAll(filled(), 0);
        tellLaw(filled());
        long from = made();
        FiveStars x = filled();
        atMost("a new object", made() - from, 5000);
        from = made();
        for (int i = 0; i < 20; i++) {
            callAll(x, i);
        }
        atMost("320 calls on it, one image and one trial with them", made() - from, 5000);
        from = made();
        for (int i = 0; i < 50; i++) {
            tellLaw(x);
        }
        atMost("50 long texts (450 calls)", made() - from, 50 * 900);
        System.exit(wrong == 0 ? 0 : 1);
    }
}
