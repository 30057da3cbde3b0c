import com.sun.management.ThreadMXBean;
import java.lang.management.ManagementFactory;

/** All calls of one run share a room: what an object needs it makes at first, and no call more. */
public final class RoomTest {
    private static final int CALLS = 512;

    public static void main(String[] args) {
        ThreadMXBean room = (ThreadMXBean) ManagementFactory.getThreadMXBean();
        askAll(new SpoonRace(), 200);
        SpoonRace x = new SpoonRace();
        long before = room.getCurrentThreadAllocatedBytes();
        askAll(x, CALLS);
        long made = room.getCurrentThreadAllocatedBytes() - before;
        Due.holds(made + " bytes made by " + CALLS + " rounds of all calls", made < 10000);
        before = room.getCurrentThreadAllocatedBytes();
        new SpoonRace();
        made = room.getCurrentThreadAllocatedBytes() - before;
        Due.holds(made + " bytes made by a new object", made < 20000);
        Due.end();
    }

    private static void askAll(SpoonRace x, int rounds) {
        for (int i = 0; i < rounds; i++) {
            x.image();
            x.feed(0x67756d3b, 4);
            x.feed(0x67756d3b, 4);
            x.feed(0x67756d20, 4);
            x.text();
            x.runner(i % 7, i % 10, i % 6);
            x.pace(0, 0, 29, 1 + i % 9);
            x.rain(12);
            x.steps(20);
            askMeans(x, i);
            x.winner();
            x.place(0);
            x.wins(1, 10);
            x.ahead(180, 0);
            x.hold(1, 1);
            x.as(1, 0);
            x.sheet(0, 16, 40);
            x.write(0, 3, 3);
            x.copy(0, 0, 0, 1, 39);
            x.load(0, 0);
            x.judge(0);
            x.status(-1);
            x.undo();
        }
    }

    private static void askMeans(SpoonRace x, int i) {
        x.clean(0, 3, 12);
        x.drops(0, 3, 10, i % 11);
        x.mean(1, 0, 3);
        x.least(1, 0, 3);
        x.best(1, 0, 3);
        x.train(1);
        x.even(0);
        x.costs(0, 3);
        x.worst(2);
        x.spoon(2);
        x.armFor(2, 300000);
        x.later(2);
        x.team(7);
        x.leg(7, 1);
        x.gum(3, 4, 8, 2, 0);
        x.suspect(3, 4, 8);
    }
}
