import java.lang.management.ManagementFactory;

/**
 * All calls of a run live in one room of 7.3 million fields and elements, so the 512 calls of an
 * object, of the dearest kinds, must stay far below it. Bytes are counted, which are at least as
 * many as fields.
 */
public final class RoomTest {
    private static final long MOST_BYTES = 7_300_000L;
    /** What is left of the 512 calls of an object behind those of prepared(). */
    private static final int CALLS = 400;

    private RoomTest() {
    }

    public static void main(String[] args) {
        spend("making objects", () -> {
            for (int i = 0; i < 100; i++) {
                new CarriedCommits().many(0);
            }
        });
        spend("foretell", () -> {
            CarriedCommits x = prepared();
            for (int i = 0; i < CALLS; i++) {
                Script.due("foretell", "its result", x.foretell(0, 2, 0), 1);
            }
        });
        spend("replay and abort", () -> {
            CarriedCommits x = prepared();
            for (int i = 0; i < CALLS / 2; i++) {
                Script.due("replay", "its result", x.replay(0, 2), 1);
                Script.due("abort", "its result", x.abort(), 9);
            }
        });
        spend("settle and forget", () -> {
            CarriedCommits x = prepared();
            x.replay(0, 2);
            x.show(1, 1);
            for (int i = 0; i < CALLS / 2; i++) {
                Script.due("settle", "its result", x.settle(0, 1), 1);
                Script.due("forget", "its result", x.forget(0), 0);
            }
        });
        Script.end();
    }

    /** Ten commits on branch 0, of which nine can be carried onto commit 2 and the last one not. */
    private static CarriedCommits prepared() {
        CarriedCommits x = new CarriedCommits();
        x.blank(0, 0, 2);
        x.write(0, 0, 1);
        x.commit(0, 0, 0);
        x.point(1, 1);
        x.write(0, 0, 2);
        x.commit(1, 0, 0);
        for (int c = 0; c < 10; c++) {
            x.blank(0, 0, 3 + c);
            x.write(0, 0, c < 9 ? 1 : 3);
            for (int i = 0; i <= c; i++) {
                x.write(0, 2 + i, 10 + i);
            }
            x.commit(0, 0, 0);
        }
        return x;
    }

    private static void spend(String what, Runnable calls) {
        com.sun.management.ThreadMXBean bean = (com.sun.management.ThreadMXBean) ManagementFactory.getThreadMXBean();
        long before = bean.getCurrentThreadAllocatedBytes();
        calls.run();
        long bytes = bean.getCurrentThreadAllocatedBytes() - before;
        System.out.println(what + ": " + bytes + " bytes");
        Script.holds(what + " stays small", bytes < MOST_BYTES);
    }
}
