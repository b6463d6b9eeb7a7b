import java.lang.management.ManagementFactory;

/** All calls of a run live in one room: a council takes little of it, its calls nothing. */
public final class RoomTest {
    private static final com.sun.management.ThreadMXBean THREADS =
        (com.sun.management.ThreadMXBean) ManagementFactory.getThreadMXBean();
    private static final int MOST_OF_COUNCIL = 20000;
    /** Less than one small object a call, and room for what the machine itself may take. */
    private static final int MOST_OF_CALLS = 2000;

    private static long taken() {
        return THREADS.getThreadAllocatedBytes(Thread.currentThread().getId());
    }

    public static void main(String[] args) {
        Due.part("room");
        use(new SilentCouncil());
        taken();
        long before = taken();
        SilentCouncil x = new SilentCouncil();
        long made = taken();
        use(x);
        long used = taken();
        System.out.println("a council takes " + (made - before) + " bytes, its calls " + (used - made));
        Due.holds("a council is small", made - before < MOST_OF_COUNCIL);
        Due.holds("its calls make nothing", used - made < MOST_OF_CALLS);
        Due.end("RoomTest");
    }

    /** Some 500 calls, each kind of them. */
    private static void use(SilentCouncil x) {
        for (int n = 0; n < 8; n++) {
            x.matter(n % 4, 7 * n + 3, 0);
        }
        for (int n = 0; n < 12; n++) {
            x.say(n < 5 ? '*' : 'a' + n % 6);
        }
        for (int n = 0; n < 18; n++) {
            x.dealt(20, n % 4);
            x.least(n % 9 - 1);
            x.filled(n * 50, n % 12);
            x.filled(-1, 0);
            x.lie();
            x.fault(n % 2);
            x.floor(n);
            x.friends(n % 6, n);
            x.lend(n % 6, n % 5, n);
            x.gifts();
            x.net(n % 6);
            x.image(n % 2);
            x.restore(n % 2);
            x.told(n);
            x.set(n % 6, 0, n);
            x.law(n % 2, n);
            x.about(n % 8, n % 3);
        }
        x.clear();
        for (int n = 0; n < 4; n++) {
            x.wipe();
            for (int part = 0; part < 13; part++) {
                x.say('?');
                x.say('a' + part % 6);
                x.say('a' + (part + 1) % 6);
            }
            x.sits(0);
            x.sit();
        }
    }
}
