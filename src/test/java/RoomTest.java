import java.lang.management.ManagementFactory;

/** The dearest calls make no objects: a run keeps to what its constructor made. */
final class RoomTest {
    private static final int ROUNDS = 200;
    private static final String TEXT = "i1342m024p123c056w125x194n037";

    public static void main(String[] args) {
        Check check = new Check("RoomTest");
        com.sun.management.ThreadMXBean threads =
                (com.sun.management.ThreadMXBean) ManagementFactory.getThreadMXBean();
        ThirdDay day = new ThirdDay();
        callAll(day);
        threads.getCurrentThreadAllocatedBytes();
        long before = threads.getCurrentThreadAllocatedBytes();
        long sum = 0;
        for (int round = 0; round < ROUNDS; round++) {
            sum += callAll(day);
        }
        long made = threads.getCurrentThreadAllocatedBytes() - before;
        check.holds("the calls answer", sum != 0);
        check.holds(ROUNDS + " rounds of all calls made " + made + " bytes", made < ROUNDS);
        check.end();
    }

    private static long callAll(ThirdDay day) {
        day.text(0, TEXT.length());
        for (int i = 0; i < TEXT.length(); i++) {
            day.put(0, i, TEXT.charAt(i));
        }
        long sum = day.fault(0) + day.court(0) + day.row(1, 2) + day.row(4, 4) + day.lay(1, 1, 1) + day.at(1, 1);
        sum += day.copy(4, 0, 1, 0, 2) + day.mean(1) + day.man(1, 4) + day.mark(1, 1) + day.mark(5, 5);
        sum += day.heat(1) + day.salve(3) + day.keep(1) + day.comes() + day.wrong(3) + day.best() + day.heats(2, 1);
        sum += day.tells(9) + day.order(0) + day.tried(0) + day.least() + day.fits(4) + day.ask(4);
        sum += day.hands(1, 4) + day.kinds(2, 4) + day.duel(6) + day.odds(5) + day.mid(7) + day.lots(20, 9);
        sum += day.trial(0) + day.undo(3) + day.on(1) + day.tear(4) + day.count(3) + day.digest() + day.at(5, 5);
        return sum;
    }
}
