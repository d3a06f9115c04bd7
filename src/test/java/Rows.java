/** Pieces of scripts that several tests begin with. */
final class Rows {
    /** 1 = [1, 2, 3]; branch 0: 2 = [1, 8, 3]; branch 1: 3 = [1, 9, 3]. Slot 0 holds bytes. */
    static final String TWO_SIDES = "slot 0 := 1, 2, 3; commit(0, 0, 0) = 1; point(1, 1) = 0; "
            + "write(0, 1, 8) = 1; commit(0, 0, 0) = 2; write(0, 1, 9) = 1; commit(1, 0, 0) = 3; ";

    /** The same, and the replay of branch 1 onto commit 2 has stopped at commit 3. */
    static final String STOPPED = TWO_SIDES + "replay(1, 2) = 1; ";

    /** Branch 1 has the commits 3 and 4; its replay onto 2 makes one commit by 3 and stops at 4. */
    static final String ONE_MADE = "slot 0 := 1, 2, 3; commit(0, 0, 0) = 1; point(1, 1) = 0; "
            + "slot 0 := 1, 8, 3; commit(0, 0, 0) = 2; slot 0 := 1, 2, 3, 4; commit(1, 0, 0) = 3; "
            + "slot 0 := 1, 9, 3, 4; commit(1, 0, 0) = 4; ";

    private Rows() {
    }

    /** A byte array whose elements count up. */
    static String count(int slot, int from, int to) {
        StringBuilder text = new StringBuilder("slot " + slot + " := ");
        for (int line = from; line <= to; line++) {
            text.append(line == from ? "" : ", ").append(line);
        }
        return text + "; ";
    }

    /** Kept commits with no lines on a branch. */
    static String empties(int branch, int howMany) {
        return "blank(0, 0, 0) = 1; " + ("commit(" + branch + ", 1, 0); ").repeat(howMany);
    }

    /** What the trace is after these numbers have been left. */
    static int trace(int... numbers) {
        int trace = 0;
        for (int number : numbers) {
            trace = 31 * trace + number;
        }
        return trace;
    }

    /**
     * Eight resolutions whose rows are [5]; slot 2 holds that byte, slot 4 nothing. Commit 1 is [1];
     * commits 2 to 9 are one to eight lines that conflict with it. No replay is under way.
     */
    static String eightResolutions() {
        StringBuilder text = new StringBuilder("slot 2 := 5; slot 0 := 1; commit(0, 0, 0) = 1; ");
        for (int size = 1; size <= 8; size++) {
            text.append("slot 0 := 9").append(", 9".repeat(size - 1)).append("; point(1, 0); commit(1, 0, 0) = ");
            text.append(size + 1).append("; ");
        }
        for (int size = 1; size <= 8; size++) {
            text.append("point(1, ").append(size + 1).append("); replay(1, 1) = 1; settle(0, 2) = ");
            // A skip and no abort(), which would take the resolution back.
            text.append(size).append("; skip() = 0; ");
        }
        return text.toString();
    }
}
