import java.lang.management.ManagementFactory;

/** All calls of a run live in one room: after an object is made, its calls make nothing more. */
public final class RoomTest {
    private static final int WARM_UP = 200;

    private static long made() {
        return ((com.sun.management.ThreadMXBean) ManagementFactory.getThreadMXBean()).getCurrentThreadAllocatedBytes();
    }

    private static long everyCall(PillarRuns x, int i) {
        long sum = x.draw(i, 9) + x.pillar(i % 96, 30 + i % 70) + x.weight(i % 96, i % 10) + x.strength(i % 12, 40);
        sum += x.wall(i % 2, i % 7, i % 3) + x.of(i % 12, i % 6) + x.rests(i % 97) + x.all(i % 8) + x.beside(0, i % 12);
        sum += x.would(i % 12, i % 2) + x.worst(i % 2) + x.cut(i % 12) + x.mending() + x.bestWall(i % 2) + x.bestCell(50, i % 2);
        sum += x.loses(i % 12) + x.runs() + x.wave(i % 3, i % 12) + x.type("p1 1 9;!; x".charAt(i % 11)) + x.does() + x.back();
        sum += x.told(i % 6) + x.digest();
        if (i % 5 == 0) sum += x.mends();
        if (i % 50 == 0) sum += x.anew() + x.clear();
        return sum;
    }

    public static void main(String[] args) {
        Due due = new Due();
        PillarRuns x = new PillarRuns();
        long sum = 0;
        for (int i = 0; i < WARM_UP; i++) sum += everyCall(x, i);
        long before = made();
        long again = made();
        // what the measuring itself makes is not the object's
        long measuring = again - before;
        before = made();
        for (int i = 0; i < WARM_UP; i++) sum += everyCall(x, i);
        long byCalls = made() - before - measuring;
        due.is("bytes made by calls (sum " + sum + ")", byCalls, 0);
        before = made();
        PillarRuns y = new PillarRuns();
        long object = made() - before - measuring;
        due.is("an object's bytes, " + object + " " + y.all(0), object < 12000 ? 1 : 0, 1);
        due.end();
    }
}
