import java.lang.management.ManagementFactory;

/** The dearest calls make nothing: all that a run needs is made with the object. */
public final class RoomTest {
    private static final Checks CHECKS = new Checks("RoomTest");
    private static final int CALLS = 512;

    public static void main(String[] args) {
        com.sun.management.ThreadMXBean threads =
            (com.sun.management.ThreadMXBean) ManagementFactory.getThreadMXBean();
        long id = Thread.currentThread().getId();
        OnlyInDisguise x = Checks.with("p001;p112;p223;p334;p445;p556;p667;p770;h00;h11;h22;h33;h44;d01;");
        Checks.fill(x, 6, 2, 0, 3, 6, 9);
        x.image();
        every(x);
        long before = threads.getThreadAllocatedBytes(id);
        long idle = threads.getThreadAllocatedBytes(id) - before;
        before = threads.getThreadAllocatedBytes(id);
        for (int i = 0; i < CALLS; i++) {
            every(x);
        }
        long made = threads.getThreadAllocatedBytes(id) - before - idle;
        CHECKS.due("bytes made by " + CALLS + " rounds of all calls but toss and element, beyond some few",
            made / 4096, 0);
        CHECKS.end();
    }

    private static void every(OnlyInDisguise x) {
        x.restore();
        x.row(0, 2, 100);
        x.cabinet(7);
        x.keep(1, 1, 0, 3);
        x.comes(1, 9);
        x.heldThen(0, 60);
        x.knownThen(0, 60);
        x.then(60, 0);
        x.falls(0);
        x.empty(0);
        x.lasts(0, 0);
        x.bestCostume(0, 60, 0);
        x.casts(-1);
        x.casts(4);
        x.send(60);
        x.change(60);
        x.over(1);
        x.over(3);
        x.over(4);
        x.whatIs(6, 0, 0);
        x.whatIs(0, 7, 1);
        x.whoHeld(0, 0);
        x.two(0, 1, 30);
        x.scandals(0, 7, 20, 0);
        x.mean(0);
        x.forged(0);
        x.judge(0);
        x.years(20, 3, 1);
        x.days(60);
        x.copy(0, 0, 6, 0, 4);
    }
}
