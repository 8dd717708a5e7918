import java.lang.management.ManagementFactory;

/** What a run makes: hundreds of calls of one sort make no more than what ACTS and IMAGES keep. */
public final class RoomTest {
    private static final int CALLS = 380, MOST_BYTES = 20000;

    private interface Call {
        long on(WinterWalk x, int i);
    }

    private static final Call[] CALLS_TRIED = {
        (x, i) -> x.row(i % 8, i % 3, 40), (x, i) -> x.feed('f'), (x, i) -> x.land(), (x, i) -> x.days(24),
        (x, i) -> x.offer(i % 8, i % 21), (x, i) -> x.door(i % 8, i / 8 % 2), (x, i) -> x.undo(),
        (x, i) -> x.image(i % 2), (x, i) -> x.restore(i % 2), (x, i) -> x.ahead(0, 100, 0), (x, i) -> x.warn(-1),
        (x, i) -> x.lure(i % 8, 100), (x, i) -> x.keepsAway(i % 8, 100, 0), (x, i) -> x.bid(i % 8, 50, 0),
        (x, i) -> x.rests(50), (x, i) -> x.fits(0, 0, 0, 24), (x, i) -> x.slept(0, 0, 0, 12, 0), (x, i) -> x.round(0),
        (x, i) -> x.meet(100, 0), (x, i) -> x.late(0, 3, 6, 0, 1), (x, i) -> x.year(100, 7, 0),
        (x, i) -> x.ask(0, i % 2)};

    public static void main(String[] args) {
        var threads = (com.sun.management.ThreadMXBean) ManagementFactory.getThreadMXBean();
        for (int c = 0; c < CALLS_TRIED.length; c++) {
            Call call = CALLS_TRIED[c];
            WinterWalk x = Due.told(Worlds.EIGHT + Worlds.TWELVE + "o0;t1;s7;");
            x.row(0, 0, 40);
            long ahead = threads.getCurrentThreadAllocatedBytes();
            for (int i = 0; i < CALLS; i++) {
                call.on(x, i);
            }
            long made = threads.getCurrentThreadAllocatedBytes() - ahead;
            Due.due("call " + c + " made " + made + " bytes: too many", made > MOST_BYTES ? 1 : 0, 0);
        }
        Due.end("RoomTest");
    }
}
