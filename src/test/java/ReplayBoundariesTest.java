/**
 * The boundary cases of REPLAYS and of promises 16 to 23, a test for each sentence of the document
 * that names one. The title quotes the sentence.
 */
public final class ReplayBoundariesTest {
    /** The merge of 1 = [1, 2], 2 and 3 has 17 lines; branch 1 points to 3. */
    private static final String SEVENTEEN = "slot 0 := 1, 2; commit(0, 0, 0) = 1; point(1, 1); "
            + "slot 0 := 31, 32, 33, 34, 35, 36, 37, 38, 1, 2; commit(0, 0, 0) = 2; "
            + "slot 0 := 1, 2, 41, 42, 43, 44, 45, 46, 47; commit(1, 0, 0) = 3; ";

    /** The same with 16 lines. */
    private static final String SIXTEEN = SEVENTEEN.replace("38, ", "");

    private ReplayBoundariesTest() {
    }

    public static void main(String[] args) {
        work();
        stepOne();
        stepTwo();
        stepThree();
        stepFour();
        stepFive();
        replay();
        replayErrors();
        go();
        skip();
        abort();
        abortRestores();
        statusIdle();
        statusUnderWay();
        conflict();
        conflictErrors();
        settle();
        settleErrors();
        foretell();
        foretellStopped();
        foretellErrors();
        Script.end();
    }

    private static void work() {
        Script.run("REPLAYS: works on the commits on the path of the branch but not on that of onto, none",
                "slot 0 := 1; commit(0, 0, 0) = 1; slot 0 := 2; commit(0, 0, 0) = 2; replay(1, 2) = 0; tip(1) = 2; "
                + "many(0) = 3; replay(1, 2) = 0; tip(1) = 2; replay(3, 0) = 0; tip(3) = 0; status(2) = 0; "
                + "status(3) = 0; many(0) = 3");
        Script.run("REPLAYS: works on all but commit 0", "slot 0 := 1; commit(0, 0, 0) = 1; slot 0 := 1, 2; "
                + "commit(0, 0, 0) = 2; replay(0, 0) = 0; status(2) = 2; tip(0) = 4; ofCommit(3, 1) = 0; "
                + "ofCommit(4, 1) = 3; ofCommit(4, 2) = 2");
        Script.run("REPLAYS: the oldest first", "slot 0 := 1; commit(0, 1, 0) = 1; slot 0 := 1, 2; "
                + "commit(0, 2, 0) = 2; slot 0 := 1, 2, 3; commit(0, 1, 0) = 3; replay(0, 0) = 0; ofCommit(4, 5) = 1; "
                + "ofCommit(5, 5) = 3; ofCommit(4, 2) = 2; ofCommit(5, 2) = 3");
        Script.run("REPLAYS: Its top is at first the commit onto which it is replayed", Rows.STOPPED
                + "status(8) = 2; skip() = 0; tip(1) = 2");
        Script.run("REPLAYS: A replay that has stopped is under way until it is over", Rows.STOPPED
                + "replay(0, 0) = -3; slot 1 := 4; settle(0, 1) = 1; replay(0, 0) = -3; go() = 0; replay(3, 0) = 0");
        Script.run("REPLAYS: A replay that has stopped is under way until it is aborted", Rows.STOPPED
                + "replay(0, 0) = -3; abort() = 0; replay(3, 0) = 0");
    }

    private static void stepOne() {
        // Commit 2 puts 9 in front of 1, commit 3 behind it.
        String same = "slot 0 := 1, 2; commit(0, 0, 0) = 1; point(1, 1); slot 0 := 9, 1, 2; commit(0, 0, 0) = 2; "
                + "slot 0 := 1, 9, 2; ";
        Script.run("REPLAYS: 1. If c is plain, and its change equals that of a commit on the path of onto", same
                + "commit(1, 0, 0) = 3; replay(1, 2) = 0; status(3) = 1; status(2) = 0; tip(1) = 2; many(0) = 4");
        Script.run("REPLAYS: 1. a kept commit is not left out", same + "commit(1, 1, 0) = 3; replay(1, 2) = 0; "
                + "status(3) = 0; status(2) = 1; ofCommit(4, 2) = 4");
        Script.run("REPLAYS: 1. a fix is not left out", same + "commit(1, 2, 0) = 3; replay(1, 2) = 0; "
                + "status(3) = 0; status(2) = 1; ofCommit(4, 2) = 4");
        Script.run("REPLAYS: 1. the other commit may be of any kind", "slot 0 := 1, 2; commit(0, 0, 0) = 1; "
                + "point(1, 1); slot 0 := 9, 1, 2; commit(0, 2, 0) = 2; slot 0 := 1, 9, 2; commit(1, 0, 0) = 3; "
                + "replay(1, 2) = 0; status(3) = 1; tip(1) = 2");
        Script.run("REPLAYS: 1. the other commit may be the oldest one behind the fork", same
                + "commit(1, 0, 0) = 3; slot 0 := 9, 1, 2, 7; commit(0, 0, 0) = 4; slot 0 := 9, 1, 2, 7, 8; "
                + "commit(0, 0, 0) = 5; replay(1, 5) = 0; status(3) = 1; tip(1) = 5");
        Script.run("REPLAYS: 1. the other commit may be between", same
                + "commit(1, 0, 0) = 3; point(0, 1); slot 0 := 1, 2, 7; commit(0, 0, 0) = 4; slot 0 := 9, 1, 2, 7; "
                + "commit(0, 0, 0) = 5; slot 0 := 9, 1, 2, 7, 8; commit(0, 0, 0) = 6; replay(1, 6) = 0; "
                + "status(3) = 1; tip(1) = 6");
        // Commit 1 puts in 9 as commit 3 does, but it is on the path of the branch, too.
        Script.run("REPLAYS: 1. but not on the path of the branch", "slot 0 := 9; commit(0, 0, 0) = 1; point(1, 1); "
                + "slot 0 := 5, 9; commit(0, 0, 0) = 2; slot 0 := 9, 9; commit(1, 0, 0) = 3; alike(1, 3) = 1; "
                + "replay(1, 2) = 0; status(3) = 0; status(2) = 1; ofCommit(4, 2) = 3");
        // Commit 4 = commit 3's change again: the one made for 3 is not on the path of onto.
        Script.run("REPLAYS: 1. not that of a commit that the replay has made", "slot 0 := 1; commit(0, 0, 0) = 1; "
                + "point(1, 1); slot 0 := 5, 1; commit(0, 0, 0) = 2; slot 0 := 1, 9; commit(1, 0, 0) = 3; "
                + "slot 0 := 1, 9, 9; commit(1, 0, 0) = 4; alike(3, 4) = 1; replay(1, 2) = 0; status(2) = 2; "
                + "status(3) = 0; ofCommit(6, 2) = 4");
        // Both changes have no pieces.
        Script.run("REPLAYS: 1. changes without pieces are equal", "slot 0 := 1; commit(0, 0, 0) = 1; point(1, 1); "
                + "commit(0, 0, 0) = 2; commit(1, 0, 0) = 3; replay(1, 2) = 0; status(3) = 1; tip(1) = 2");
        // The change of 3 is there already, so that its conflict with 4 is not looked at.
        Script.run("REPLAYS: 1. before the merge", "slot 0 := 1; commit(0, 0, 0) = 1; point(1, 1); slot 0 := 2; "
                + "commit(0, 0, 0) = 2; commit(1, 0, 0) = 3; slot 0 := 5; commit(0, 0, 0) = 4; "
                + "merge(1, 4, 3, 1) = 1; replay(1, 4) = 0; status(3) = 1; tip(1) = 4");
    }

    private static void stepTwo() {
        Script.run("REPLAYS: 2. If a conflict is open, the replay stops (1)", Rows.TWO_SIDES + "replay(1, 2) = 1; "
                + "status(0) = 1; tip(1) = 3; many(0) = 4");
        Script.run("REPLAYS: 2. if one of two conflicts is open", "slot 0 := 1, 2, 3; commit(0, 0, 0) = 1; "
                + "point(1, 1); slot 0 := 11, 2, 12, 13; commit(0, 0, 0) = 2; slot 0 := 21, 2, 22; "
                + "commit(1, 0, 0) = 3; replay(1, 2) = 1; slot 1 := 5; settle(0, 1) = 1; go() = 1; status(5) = 0; "
                + "settle(0, 1) = 2; go() = 0; status(5) = 2");
        Script.run("REPLAYS: 2. if the result has more than 16 lines, it stops (2)", SEVENTEEN + "replay(1, 2) = 2; "
                + "status(0) = 2; status(1) = 3; status(7) = 0; tip(1) = 3; many(0) = 4; merge(1, 2, 3, 2) = 17");
        Script.run("REPLAYS: 2. with 16 lines it does not stop", SIXTEEN + "replay(1, 2) = 0; ofCommit(4, 2) = 16; "
                + "ofCommit(4, 10) = 31; ofCommit(4, 25) = 47; tip(1) = 4");
        // An open conflict, and more than 16 lines without it.
        Script.run("REPLAYS: 2. the open conflict comes first", "slot 0 := 1, 2, 3; commit(0, 0, 0) = 1; "
                + "point(1, 1); slot 0 := 31, 32, 33, 34, 35, 36, 37, 38, 1, 2, 5; commit(0, 0, 0) = 2; "
                + "slot 0 := 1, 41, 42, 43, 44, 45, 46, 47, 2, 6; commit(1, 0, 0) = 3; replay(1, 2) = 1; "
                + "status(0) = 1; blank(1, 0, 0); settle(0, 1) = 1; go() = 2; status(0) = 2; status(5) = 0");
    }

    private static void stepThree() {
        // Branch 0 comes to [1, 3] by two changes, commit 4 by one: no change is equal.
        String arrived = "slot 0 := 1, 2; commit(0, 0, 0) = 1; point(1, 1); slot 0 := 1; commit(0, 0, 0) = 2; "
                + "slot 0 := 1, 3; commit(0, 0, 0) = 3; ";
        Script.run("REPLAYS: 3. If the result equals the row of top, and c is plain, c is left out", arrived
                + "commit(1, 0, 0) = 4; replay(1, 3) = 0; status(2) = 0; status(3) = 1; tip(1) = 3; many(0) = 5");
        Script.run("REPLAYS: 3. not if c is kept", arrived + "commit(1, 1, 0) = 4; replay(1, 3) = 0; status(2) = 1; "
                + "status(3) = 0; tip(1) = 5; ofCommit(5, 3) = 0; ofCommit(5, 0) = 1");
        Script.run("REPLAYS: 3. not if c is a fix", arrived + "commit(1, 2, 0) = 4; replay(1, 3) = 0; status(2) = 1; "
                + "status(3) = 0; status(4) = 0; tip(1) = 5; ofCommit(5, 0) = 2");
        Script.run("REPLAYS: 3. a plain commit that changes nothing", "slot 0 := 1; commit(0, 0, 0) = 1; "
                + "commit(0, 0, 0) = 2; replay(0, 1) = 0; status(3) = 1; tip(0) = 1; many(0) = 3");
        // The conflict is settled by our line, so that the result equals the row of top.
        Script.run("REPLAYS: 3. by a resolution", Rows.STOPPED + "slot 1 := 8; settle(0, 1) = 1; go() = 0; "
                + "status(2) = 0; status(3) = 1; status(5) = 1; tip(1) = 2; many(0) = 4");
        // As long as the row of top, and different in the last line alone.
        Script.run("REPLAYS: 3. not if one line differs", Rows.count(0, 1, 16) + "commit(0, 0, 0) = 1; "
                + "write(0, 15, 17); commit(0, 0, 0) = 2; replay(0, 1) = 0; status(2) = 1; status(3) = 0; tip(0) = 3");
    }

    private static void stepFour() {
        Script.run("REPLAYS: 4. if c is a fix, and top was made by this replay, the row of top becomes the result", """
                slot 0 := 1; commit(0, 0, 0) = 1; slot 0 := 1, 2; commit(0, 2, 0) = 2; replay(0, 0) = 0
                status(2) = 1; status(4) = 1; status(3) = 0; many(0) = 4; tip(0) = 3; ofCommit(3, 2) = 2
                ofCommit(3, 11) = 2; ofCommit(3, 0) = 0; ofCommit(3, 5) = 1; ofCommit(1, 2) = 1
                """);
        Script.run("REPLAYS: 4. not if top is the commit onto which it is replayed", """
                slot 0 := 1; commit(0, 0, 0) = 1; slot 0 := 1, 2; commit(0, 2, 0) = 2; replay(0, 1) = 0
                status(2) = 1; status(4) = 0; tip(0) = 3; ofCommit(3, 0) = 2; ofCommit(3, 1) = 1
                ofCommit(1, 2) = 1; ofCommit(3, 2) = 2
                """);
        // Commit 3 was made by a replay, but by the one before.
        Script.run("REPLAYS: 4. not if top was made by an earlier replay", """
                slot 0 := 1; commit(0, 0, 0) = 1; replay(0, 0) = 0; tip(0) = 2; slot 0 := 1, 2
                commit(0, 2, 0) = 3; replay(0, 2) = 0; status(2) = 1; status(4) = 0; tip(0) = 4
                ofCommit(2, 2) = 1; ofCommit(4, 0) = 2
                """);
        Script.run("REPLAYS: 4. not if what came before was left out", """
                slot 0 := 1; commit(0, 0, 0) = 1; commit(0, 0, 0) = 2; slot 0 := 1, 2; commit(0, 2, 0) = 3
                replay(0, 1) = 0; status(2) = 1; status(3) = 1; status(4) = 0; ofCommit(4, 0) = 2; ofCommit(4, 5) = 3
                """);
        Script.run("REPLAYS: 4. a fix that changes nothing melts, too", """
                slot 0 := 1; commit(0, 0, 0) = 1; commit(0, 2, 0) = 2; replay(0, 0) = 0; status(2) = 1
                status(3) = 0; status(4) = 1; tip(0) = 3; ofCommit(3, 2) = 1
                """);
        Script.run("REPLAYS: 4. into a kept commit, and into a fix", """
                slot 0 := 1; commit(0, 1, 0) = 1; slot 0 := 1, 2; commit(0, 2, 0) = 2; replay(0, 0) = 0
                ofCommit(3, 0) = 1; ofCommit(3, 2) = 2; anew() = 4; slot 0 := 1; commit(0, 2, 0) = 1
                slot 0 := 1, 2; commit(0, 2, 0) = 2; replay(0, 0) = 0; ofCommit(3, 0) = 2; ofCommit(3, 2) = 2
                status(4) = 1
                """);
        Script.run("REPLAYS: 4. a kept commit does not melt", "slot 0 := 1; commit(0, 0, 0) = 1; slot 0 := 1, 2; "
                + "commit(0, 1, 0) = 2; replay(0, 0) = 0; status(2) = 2; status(4) = 0; tip(0) = 4");
        Script.run("REPLAYS: 4. what has melted leaves nothing in the trace", "slot 0 := 1; commit(0, 0, 0) = 1; "
                + "slot 0 := 1, 2; commit(0, 2, 0) = 2; replay(0, 0) = 0; trace() = "
                + Rows.trace(1, 2, 7, 1, 2, 7, 1, 2, 7, 3, 4, 5, 6, 1, 2));
        Script.run("REPLAYS: 4. a slot that holds top sees its new row", Rows.ONE_MADE.replace("commit(1, 0, 0) = 4",
                "commit(1, 2, 0) = 4") + "replay(1, 2) = 1; hold(1, 5); tell(5) = 4; slot 2 := 9, 9; "
                + "settle(0, 2) = 1; go() = 0; held(1) = 5; tell(5) = 5; tip(1) = 5; status(4) = 1");
    }

    private static void stepFive() {
        Script.run("REPLAYS: 5. a commit of the kind of c is made, with the parent top", """
                slot 0 := 1; commit(0, 2, 0) = 1; slot 0 := 1, 2; commit(0, 1, 0) = 2; slot 0 := 1, 2, 3
                commit(0, 0, 0) = 3; replay(0, 0) = 0; ofCommit(4, 0) = 2; ofCommit(5, 0) = 1; ofCommit(6, 0) = 0
                ofCommit(4, 1) = 0; ofCommit(5, 1) = 4; ofCommit(6, 1) = 5; ofCommit(4, 5) = 1
                ofCommit(5, 5) = 2; ofCommit(6, 5) = 3
                """);
        Script.run("REPLAYS: After the last one the branch points to top", "slot 0 := 1; commit(0, 0, 0) = 1; "
                + "point(1, 1); replay(0, 0) = 0; tip(0) = 2; tip(1) = 1; many(2) = 3");
    }

    private static void replay() {
        Script.run("16: Returns 0 if it is over", "replay(0, 0) = 0; replay(3, 0) = 0; status(0) = 0");
        Script.run("16: 1 or 2 if it has stopped", Rows.TWO_SIDES + "replay(1, 2) = 1; abort() = 0; anew() = 4; "
                + SEVENTEEN + "replay(1, 2) = 2");
        Script.run("16: the figures are those of the latest replay", "slot 0 := 1; commit(0, 0, 0) = 1; "
                + "replay(0, 0) = 0; status(2) = 1; replay(1, 0) = 0; status(2) = 0");
    }

    private static void replayErrors() {
        Script.run("16: UNKNOWN if there is no such branch", "replay(-1, 0) = -1; replay(4, 0) = -1; "
                + "replay(MIN, 0) = -1; replay(MAX, 0) = -1");
        Script.run("16: UNKNOWN if there is no such commit", "replay(0, -1) = -1; replay(0, 1) = -1; "
                + "replay(0, MIN) = -1; replay(0, MAX) = -1");
        Script.run("16: STATE if a replay is under way", Rows.STOPPED + "replay(1, 2) = -3; replay(3, 0) = -3; "
                + "status(1) = 3; replay(4, 0) = -1; replay(0, 4) = -1");
        Script.run("16: FULL if the commits, plus those on which it would work, are more than 24: 24",
                Rows.empties(0, 12) + "replay(0, 1) = 0; many(0) = 24; status(2) = 11");
        Script.run("16: FULL if the commits, plus those on which it would work, are more than 24: 25",
                Rows.empties(0, 12) + "replay(0, 0) = -4; many(0) = 13; tip(0) = 12; status(2) = 0; go() = -3; "
                + "replay(0, 1) = 0");
        // Plain commits that change nothing would be left out, but they count.
        Script.run("16: FULL, also if it would leave them out", "blank(0, 0, 0); " + "commit(0, 0, 0); ".repeat(13)
                + "replay(0, 0) = -4; replay(0, 1) = -4; replay(0, 2) = -4; replay(0, 3) = 0; many(0) = 14; "
                + "status(3) = 10");
        Script.run("16: FULL, not with 24 commits and none to work on", Rows.empties(0, 23) + "replay(1, 23) = 0; "
                + "tip(1) = 23; replay(0, 23) = 0; replay(0, 22) = -4; replay(2, 0) = 0");
        Script.run("16: UNKNOWN before STATE before FULL", Rows.empties(3, 18) + "slot 0 := 1; "
                + "commit(0, 0, 0) = 19; slot 0 := 2; commit(1, 0, 0) = 20; replay(3, 0) = -4; replay(4, 0) = -1; "
                + "replay(3, 21) = -1; replay(1, 19) = 1; replay(3, 0) = -3; replay(4, 0) = -1; replay(3, 21) = -1");
    }

    private static void go() {
        Script.run("17: STATE if none is under way", "go() = -3; " + Rows.TWO_SIDES + "go() = -3; replay(1, 2) = 1; "
                + "abort() = 0; go() = -3; replay(1, 2) = 1; skip() = 0; go() = -3");
        Script.run("17: Returns as for replay(), 1", Rows.STOPPED + "go() = 1; go() = 1; status(1) = 3; status(3) = 0");
        Script.run("17: Returns as for replay(), 2", SEVENTEEN + "replay(1, 2) = 2; go() = 2; status(1) = 3");
        Script.run("17: Returns as for replay(), 0", Rows.STOPPED + "slot 1 := 4; settle(0, 1) = 1; go() = 0; "
                + "status(0) = 0; tip(1) = 4; many(0) = 5; ofCommit(4, 11) = 4");
        Script.run("17: with the commit at which it stopped, not with those before", Rows.ONE_MADE
                + "replay(1, 2) = 1; "
                + "status(2) = 1; status(8) = 5; slot 1 := 4; settle(0, 1) = 1; go() = 0; status(2) = 2; tip(1) = 6; "
                + "ofCommit(6, 1) = 5; ofCommit(6, 5) = 4; many(0) = 7");
        Script.run("17: it stops again at a later one", Rows.TWO_SIDES + "slot 0 := 1, 9, 7, 3; "
                + "commit(1, 0, 0) = 4; replay(1, 2) = 1; slot 1 := 5; settle(0, 1) = 1; go() = 1; status(1) = 4; "
                + "status(2) = 1; status(6) = 0; tip(1) = 4");
    }

    private static void skip() {
        Script.run("18: STATE if none is under way", "skip() = -3; " + Rows.TWO_SIDES + "skip() = -3; "
                + "replay(1, 2) = 1; abort() = 0; skip() = -3");
        Script.run("18: Leaves out the commit at which the replay stopped, the last one", Rows.STOPPED
                + "skip() = 0; tip(1) = 2; many(0) = 4; status(2) = 0; status(3) = 1; skip() = -3");
        Script.run("18: and lets the replay go on with the next one", Rows.TWO_SIDES + "slot 0 := 1, 9, 3, 4; "
                + "commit(1, 0, 0) = 4; replay(1, 2) = 1; skip() = 0; tip(1) = 5; ofCommit(5, 5) = 4; "
                + "ofCommit(5, 1) = 2; ofCommit(5, 2) = 4; ofCommit(5, 11) = 8; status(2) = 1; status(3) = 1");
        Script.run("18: Returns as for replay(), 1", Rows.TWO_SIDES + "slot 0 := 1, 7, 3; commit(1, 0, 0) = 4; "
                + "replay(1, 2) = 1; skip() = 1; status(1) = 4; status(0) = 1; skip() = 0; status(3) = 2");
        Script.run("18: Returns as for replay(), 2", "slot 0 := 1, 2, 3; commit(0, 0, 0) = 1; point(1, 1); "
                + "slot 0 := 31, 32, 33, 34, 35, 36, 37, 38, 1, 2, 8; commit(0, 0, 0) = 2; slot 0 := 1, 2, 9; "
                + "commit(1, 0, 0) = 3; slot 0 := 1, 41, 42, 43, 44, 45, 46, 2, 9; commit(1, 0, 0) = 4; "
                + "replay(1, 2) = 1; skip() = 2; status(0) = 2; status(1) = 4; skip() = 0; tip(1) = 2");
        Script.run("18: a stop for more than 16 lines can be skipped", SEVENTEEN + "replay(1, 2) = 2; skip() = 0; "
                + "tip(1) = 2; status(3) = 1");
        Script.run("18: after settle()", Rows.STOPPED + "slot 1 := 4; settle(0, 1) = 1; skip() = 0; tip(1) = 2; "
                + "many(1) = 1; status(5) = 0; status(3) = 1");
    }

    private static void abort() {
        Script.run("19: STATE if none is under way", "abort() = -3; " + Rows.TWO_SIDES + "abort() = -3; "
                + "replay(1, 2) = 1; abort() = 0; abort() = -3; replay(1, 2) = 1; skip() = 0; abort() = -3");
        Script.run("19: Returns how many commits are gone by this, 0", Rows.STOPPED + "abort() = 0; many(0) = 4");
        Script.run("19: Returns how many commits are gone by this, 1", Rows.ONE_MADE + "replay(1, 2) = 1; many(0) = 6; "
                + "abort() = 1; many(0) = 5");
        // Ten are made, and the eleventh, [7] instead of nothing, at which it stops: more there is no room for.
        Script.run("19: Returns how many commits are gone by this, 10", "slot 1 := 2; commit(0, 0, 1) = 1; "
                + Rows.empties(1, 10) + "slot 0 := 7; commit(1, 0, 0) = 12; replay(1, 1) = 1; status(1) = 12; "
                + "many(0) = 23; abort() = 10; many(0) = 13; tip(1) = 12");
        Script.run("19: a stop for more than 16 lines can be aborted", SEVENTEEN + "replay(1, 2) = 2; abort() = 0; "
                + "tip(1) = 3; status(0) = 0");
    }

    private static void abortRestores() {
        Script.run("19: the commits become what they were", Rows.ONE_MADE + "replay(1, 2) = 1; ofCommit(5, 5) = 3; "
                + "abort() = 1; ofCommit(5, 5) = -1; ofCommit(4, 2) = 4; ofCommit(2, 2) = 3; point(3, 0); slot 0 := 6; "
                + "commit(3, 0, 0) = 5; ofCommit(5, 5) = -9; ofCommit(5, 10) = 6");
        Script.run("19: branches become what they were", Rows.ONE_MADE + "point(2, 4); point(3, 2); replay(1, 2) = 1; "
                + "abort() = 1; tip(0) = 2; tip(1) = 4; tip(2) = 4; tip(3) = 2");
        Script.run("19: resolutions, a new one goes", Rows.STOPPED + "slot 1 := 4; settle(0, 1) = 1; abort() = 0; "
                + "many(1) = 0; resolution(0, 0) = -1; replay(1, 2) = 1");
        Script.run("19: resolutions, a removed one comes back, at its place", Rows.eightResolutions()
                + "slot 0 := 9, 9, 9, 9, 9, 9, 9, 9, 9; point(1, 0); commit(1, 0, 0) = 10; replay(1, 1) = 1; "
                + "forget(0) = 7; forget(3) = 6; settle(0, 2) = 7; abort() = 0; many(1) = 8; resolution(0, 0) = 5; "
                + "resolution(1, 0) = 6; resolution(4, 0) = 9; resolution(6, 0) = 11; resolution(7, 0) = 12; "
                + "resolution(8, 0) = -1");
        // The replay before has made 1, left out 1, melted 1 and used 1 resolution.
        Script.run("19: the results of status() become what they were", """
                slot 0 := 1, 2; commit(0, 0, 0) = 1; point(1, 1); point(2, 1); slot 0 := 1, 8; commit(0, 0, 0) = 2
                slot 0 := 1, 9; commit(1, 0, 0) = 3; commit(1, 0, 0) = 4; slot 0 := 6, 1, 9; commit(1, 2, 0) = 5
                slot 0 := 1, 2, 2, 7; commit(2, 0, 0) = 6; replay(1, 2) = 1; slot 1 := 9, 8; settle(0, 1) = 1
                go() = 0; status(2) = 1; status(3) = 1; status(4) = 1; status(5) = 1
                replay(2, 2) = 1; status(2) = 0; status(3) = 0; status(4) = 0; status(5) = 0; abort() = 0
                status(0) = 0; status(1) = -9; status(2) = 1; status(3) = 1; status(4) = 1; status(5) = 1
                status(6) = 0; status(7) = 0; status(8) = -9
                """);
        Script.run("19: (The slots stay)", Rows.ONE_MADE + "replay(1, 2) = 1; hold(1, 5); hold(2, 4); slot 3 := 44; "
                + "abort() = 1; as(1, 2) = 1; held(1) = -9; held(2) = 4; number(3, 0) = 44; many(3) = 4");
        Script.run("19: (and the trace stays)", Rows.ONE_MADE + "replay(1, 2) = 1; abort() = 1; trace() = "
                + Rows.trace(1, 2, 7, 1, 2, 7, 1, 2, 7, 1, 2, 7, 1, 2, 7, 1, 2));
    }

    private static void statusIdle() {
        Script.run("20: 2 to 5 are 0 if there was no replay", "status(2) = 0; status(3) = 0; status(4) = 0; "
                + "status(5) = 0");
        Script.run("20: 0 if none is under way", "status(0) = 0; " + Rows.STOPPED + "status(0) = 1; skip() = 0; "
                + "status(0) = 0");
        Script.run("20: 1: NONE if none is under way", "status(1) = -9; " + Rows.STOPPED + "status(1) = 3; "
                + "skip() = 0; status(1) = -9");
        Script.run("20: 6: 0 if none is under way", "status(6) = 0; " + Rows.ONE_MADE + "slot 0 := 5; "
                + "commit(1, 0, 0) = 5; replay(1, 2) = 1; status(6) = 1; abort() = 1; status(6) = 0");
        Script.run("20: 7: 0 if none is under way", "status(7) = 0; " + Rows.STOPPED + "status(7) = 1; "
                + "abort() = 0; status(7) = 0; merge(1, 2, 3, 1) = 1; status(7) = 0");
        Script.run("20: 8: its top, NONE if none is under way", "status(8) = -9; " + Rows.STOPPED + "status(8) = 2; "
                + "skip() = 0; status(8) = -9");
        Script.run("20: 2 to 5 are those of the latest replay, over", "slot 0 := 1; commit(0, 0, 0) = 1; "
                + "commit(0, 0, 0) = 2; slot 0 := 1, 2; commit(0, 2, 0) = 3; replay(0, 0) = 0; status(2) = 1; "
                + "status(3) = 1; status(4) = 1; replay(3, 1) = 0; status(2) = 0; status(3) = 0; status(4) = 0");
        Script.run("20: OUTSIDE if what is none of these", "status(-1) = -2; status(9) = -2; status(10) = -2; "
                + "status(MIN) = -2; status(MAX) = -2; " + Rows.STOPPED + "status(-1) = -2; status(9) = -2");
    }

    private static void statusUnderWay() {
        Script.run("20: 2 to 5 are those of the latest replay, under way", Rows.ONE_MADE + "replay(1, 2) = 1; "
                + "status(2) = 1; status(3) = 0; status(4) = 0; status(5) = 0");
        Script.run("20: 0: 1 or 2 as it has stopped", Rows.STOPPED + "status(0) = 1; slot 1 := 4; "
                + "settle(0, 1) = 1; status(0) = 1; status(7) = 0; abort() = 0; anew() = 4; " + SEVENTEEN
                + "replay(1, 2) = 2; status(0) = 2");
        Script.run("20: 5: how many conflicts have become rows of resolutions, several in one merge", """
                slot 0 := 1, 2, 3, 4; commit(0, 0, 0) = 1; point(1, 1); slot 0 := 1, 8, 3, 18; commit(0, 0, 0) = 2
                slot 0 := 1, 9, 3, 19; commit(1, 0, 0) = 3; replay(1, 2) = 1; slot 1 := 5; settle(0, 1) = 1
                status(5) = 0; go() = 0; status(5) = 2
                """);
        // The first commit's conflict is settled and counted, the second one's stops the replay.
        Script.run("20: 5: in all merges at which it did not stop", Rows.TWO_SIDES + "slot 0 := 1, 7, 6, 3; "
                + "commit(1, 0, 0) = 4; replay(1, 2) = 1; slot 1 := 5; settle(0, 1) = 1; go() = 1; status(5) = 1; "
                + "settle(0, 1) = 2; status(5) = 1; go() = 0; status(5) = 2");
        Script.run("20: 5: not in a merge that stops for more than 16 lines", "slot 0 := 1, 2, 3; "
                + "commit(0, 0, 0) = 1; point(1, 1); " + Rows.count(0, 31, 45) + "write(0, 0, 8); write(0, 1, 2); "
                + "write(0, 2, 3); commit(0, 0, 0) = 2; slot 0 := 9, 2, 3; commit(1, 0, 0) = 3; replay(1, 2) = 1; "
                + "slot 1 := 4, 5, 6; settle(0, 1) = 1; go() = 2; status(5) = 0; forget(0) = 0; slot 1 := 4, 5; "
                + "settle(0, 1) = 1; go() = 0; status(5) = 1; ofCommit(4, 2) = 16");
        Script.run("20: 6: how many commits come after the one at which it stopped", Rows.TWO_SIDES
                + "commit(1, 1, 0) = 4; commit(1, 1, 0) = 5; replay(1, 2) = 1; status(6) = 2; skip() = 0");
        Script.run("20: 6: the last one", Rows.STOPPED + "status(6) = 0");
        Script.run("20: 7: how many conflicts are open now", "slot 0 := 1, 2, 3; commit(0, 0, 0) = 1; point(1, 1); "
                + "slot 0 := 11, 2, 12, 13; commit(0, 0, 0) = 2; slot 0 := 21, 2, 22; commit(1, 0, 0) = 3; "
                + "replay(1, 2) = 1; status(7) = 2; slot 1 := 5; settle(0, 1) = 1; status(7) = 1; "
                + "settle(0, 1) = 2; status(7) = 0; forget(0) = 1; status(7) = 1; forget(0) = 0; status(7) = 2");
        Script.run("20: 8: its top", Rows.ONE_MADE + "replay(1, 2) = 1; status(8) = 5");
    }

    private static void conflict() {
        String whole = Rows.count(0, 0, 15) + "commit(0, 0, 0) = 1; point(1, 1); " + Rows.count(0, 16, 31)
                + "commit(0, 0, 0) = 2; " + Rows.count(0, 84, 99) + "commit(1, 0, 0) = 3; replay(1, 2) = 1; ";
        Script.run("21: 0, 1, 2: the number of lines of the parts of base, ours, theirs, 16", whole
                + "conflict(0, 0) = 16; conflict(0, 1) = 16; conflict(0, 2) = 16; conflict(0, 3) = 51");
        Script.run("21: 0, 1, 2: the number of lines of the parts of base, ours, theirs, 0", """
                slot 0 := 1; commit(0, 0, 0) = 1; point(1, 1); slot 0 := 1, 8; commit(0, 0, 0) = 2; slot 0 := 1, 9
                commit(1, 0, 0) = 3; replay(1, 2) = 1; conflict(0, 0) = 0; conflict(0, 1) = 1; abort() = 0
                point(2, 0); slot 0 := 5; commit(2, 0, 0) = 4; blank(0, 0, 0); commit(2, 0, 0) = 5; point(2, 5)
                point(3, 4); slot 0 := 6; commit(3, 0, 0) = 6; replay(3, 5) = 1; conflict(0, 0) = 1
                conflict(0, 1) = 0; conflict(0, 2) = 1; abort() = 0; replay(2, 6) = 1; conflict(0, 1) = 1
                conflict(0, 2) = 0
                """);
        Script.run("21: 10 + i, 30 + i, 50 + i (i is 0 to 15)", whole + "conflict(0, 10) = 0; conflict(0, 25) = 15; "
                + "conflict(0, 30) = 16; conflict(0, 45) = 31; conflict(0, 50) = 84; conflict(0, 65) = 99");
        Script.run("21: 70 + i (i is 0 to 50)", whole + "conflict(0, 70) = 16; conflict(0, 71) = 0; "
                + "conflict(0, 119) = 46; conflict(0, 120) = 47");
        // The rows go on behind the parts; the parts end there.
        Script.run("21: NONE if there is no such line or number", Rows.STOPPED + "conflict(0, 10) = 2; "
                + "conflict(0, 11) = -9; conflict(0, 25) = -9; conflict(0, 30) = 8; conflict(0, 31) = -9; "
                + "conflict(0, 45) = -9; conflict(0, 50) = 9; conflict(0, 51) = -9; conflict(0, 65) = -9; "
                + "conflict(0, 75) = 2; conflict(0, 76) = -9; conflict(0, 120) = -9");
        Script.run("21: index among the open conflicts, in their order", "slot 0 := 1, 2, 3; commit(0, 0, 0) = 1; "
                + "point(1, 1); slot 0 := 11, 2, 12, 13; commit(0, 0, 0) = 2; slot 0 := 21, 2, 22; "
                + "commit(1, 0, 0) = 3; replay(1, 2) = 1; conflict(0, 10) = 1; conflict(0, 30) = 11; "
                + "conflict(1, 10) = 3; conflict(1, 30) = 12; slot 1 := 5; settle(0, 1) = 1; conflict(0, 10) = 3; "
                + "conflict(0, 3) = 7; conflict(1, 10) = -1");
        Script.run("21: eight open conflicts", Rows.count(0, 1, 8) + "commit(0, 0, 0) = 1; point(1, 1); "
                + "slot 0 := 11,1,12,2,13,3,14,4,15,5,16,6,17,7,18,8; commit(0, 0, 0) = 2; "
                + "slot 0 := 21,1,22,2,23,3,24,4,25,5,26,6,27,7,28,8; commit(1, 0, 0) = 3; replay(1, 2) = 1; "
                + "status(7) = 8; conflict(7, 30) = 18; conflict(7, 50) = 28; conflict(8, 30) = -1");
    }

    private static void conflictErrors() {
        Script.run("21: UNKNOWN if there is no such conflict", Rows.STOPPED + "conflict(-1, 0) = -1; "
                + "conflict(1, 0) = -1; conflict(MIN, 0) = -1; conflict(MAX, 0) = -1; conflict(-9, 0) = -1; "
                + "conflict(1, 5) = -1; conflict(-1, -1) = -1; slot 1 := 4; settle(0, 1) = 1; conflict(0, 0) = -1; "
                + "conflict(0, 5) = -1");
        Script.run("21: UNKNOWN if it has stopped for more than 16 lines", SEVENTEEN + "replay(1, 2) = 2; "
                + "conflict(0, 0) = -1; conflict(0, 5) = -1");
        Script.run("21: UNKNOWN if no replay is under way", "conflict(0, 0) = -1; conflict(0, 5) = -1; " + Rows.STOPPED
                + "conflict(0, 0) = 1; abort() = 0; conflict(0, 0) = -1; conflict(0, 5) = -1; merge(1, 2, 3, 0) = 1; "
                + "conflict(0, 0) = -1");
        Script.run("21: OUTSIDE if what is none of these", Rows.STOPPED + "conflict(0, -1) = -2; conflict(0, 5) = -2; "
                + "conflict(0, 9) = -2; conflict(0, 26) = -2; conflict(0, 29) = -2; conflict(0, 46) = -2; "
                + "conflict(0, 49) = -2; conflict(0, 66) = -2; conflict(0, 69) = -2; conflict(0, 121) = -2; "
                + "conflict(0, MIN) = -2; conflict(0, MAX) = -2");
    }

    private static void settle() {
        Script.run("22: The replay goes on only by go()", Rows.STOPPED + "slot 1 := 4; settle(0, 1) = 1; "
                + "status(0) = 1; status(1) = 3; many(0) = 4; tip(1) = 3; go() = 0; many(0) = 5; tip(1) = 4");
        Script.run("22: by the elements of a byte array, none", Rows.STOPPED + "blank(1, 0, 0); settle(0, 1) = 1; "
                + "resolution(0, 1) = 0; go() = 0; ofCommit(4, 2) = 2");
        Script.run("22: by the elements of a byte array, 6", Rows.STOPPED + "slot 1 := 0, 99, 8, 9, 2, 1; "
                + "settle(0, 1) = 1; resolution(0, 1) = 6; go() = 0; ofCommit(4, 2) = 8; ofCommit(4, 11) = 0; "
                + "ofCommit(4, 12) = 99; ofCommit(4, 16) = 1");
        Script.run("22: the row stays when the array changes", Rows.STOPPED + "slot 1 := 4; settle(0, 1) = 1; "
                + "write(1, 0, 5); resolution(0, 70) = 104");
        Script.run("22: Returns the number of resolutions then, 1 to 8", Rows.eightResolutions() + "many(1) = 8");
    }

    private static void settleErrors() {
        Script.run("22: UNKNOWN if there is no such conflict", Rows.STOPPED + "slot 1 := 4; settle(-1, 1) = -1; "
                + "settle(1, 1) = -1; settle(MIN, 1) = -1; settle(MAX, 1) = -1; settle(-9, 1) = -1; fault() = 0; "
                + "many(1) = 0; settle(0, 1) = 1; settle(0, 1) = -1");
        Script.run("22: UNKNOWN if no replay is under way", "slot 1 := 4; settle(0, 1) = -1; " + Rows.STOPPED
                + "abort() = 0; settle(0, 1) = -1; merge(1, 2, 3, 1) = 1; settle(0, 1) = -1; many(1) = 0; fault() = 0");
        Script.run("22: UNKNOWN if there is no such slot", Rows.STOPPED + "settle(0, -1) = -1; settle(0, 5) = -1; "
                + "settle(0, MIN) = -1; settle(0, MAX) = -1; fault() = 0; many(1) = 0");
        Script.run("22: UNKNOWN before -12, -11 and OUTSIDE", Rows.STOPPED + "settle(1, 4) = -1; fault() = 0; "
                + "blank(4, 1, 1); settle(1, 4) = -1; fault() = 0; hold(4, 0); settle(-1, 4) = -1; fault() = 0; "
                + "blank(4, 0, 7); settle(1, 4) = -1; fault() = 0; abort() = 0; settle(0, 3) = -1; fault() = 0");
        Script.run("22: -12 if the slot holds an int array", Rows.STOPPED + "blank(1, 1, 1); settle(0, 1) = -12; "
                + "fault() = 2; many(1) = 0; blank(1, 1, 7); settle(0, 1) = -12");
        Script.run("22: -12 if the slot holds a commit", Rows.STOPPED + "hold(1, 0); settle(0, 1) = -12; fault() = 2; "
                + "many(1) = 0");
        Script.run("22: -11 if it holds nothing", Rows.STOPPED + "settle(0, 1) = -11; fault() = 1; many(1) = 0");
        Script.run("22: OUTSIDE if the array has more than 6 elements", Rows.STOPPED + "blank(1, 0, 7); "
                + "settle(0, 1) = -2; fault() = 0; blank(1, 0, 24); settle(0, 1) = -2; many(1) = 0; blank(1, 0, 6); "
                + "settle(0, 1) = 1");
        Script.run("22: OUTSIDE if the array has one that is not 0 to 99", Rows.STOPPED
                + "slot 1 := 100, 0, 0, 0, 0, 0; "
                + "settle(0, 1) = -2; fault() = 0; slot 1 := 0, 0, 0, 0, 0, -1; settle(0, 1) = -2; "
                + "slot 1 := 0, 0, 0, 0, 0, 100; settle(0, 1) = -2; many(1) = 0; slot 1 := 99; settle(0, 1) = 1");
        String full = Rows.eightResolutions() + "slot 0 := 9, 9, 9, 9, 9, 9, 9, 9, 9; point(1, 0); "
                + "commit(1, 0, 0) = 10; replay(1, 1) = 1; ";
        Script.run("22: FULL if there are 8 resolutions", full + "settle(0, 2) = -4; fault() = 0; many(1) = 8; "
                + "status(7) = 1; forget(0) = 7; settle(0, 2) = 8; settle(0, 2) = -1");
        Script.run("22: the other errors before FULL", full + "settle(1, 2) = -1; settle(0, 5) = -1; "
                + "settle(0, 4) = -11; fault() = 1; blank(4, 1, 1); settle(0, 4) = -12; fault() = 2; "
                + "blank(4, 0, 7); settle(0, 4) = -2; slot 4 := 100; settle(0, 4) = -2; fault() = 0");
    }

    private static void foretell() {
        Script.run("23: 0: its result, 0", "foretell(0, 0, 0) = 0; " + SIXTEEN + "foretell(1, 2, 0) = 0");
        Script.run("23: 0: its result, 1", Rows.TWO_SIDES + "foretell(1, 2, 0) = 1");
        Script.run("23: 0: its result, 2", SEVENTEEN + "foretell(1, 2, 0) = 2");
        Script.run("23: 1: how many commits it would make", Rows.ONE_MADE + "foretell(1, 2, 1) = 1; "
                + "foretell(1, 0, 1) = 3; "
                + "foretell(1, 4, 1) = 0");
        Script.run("23: 2: how many it would leave out", "slot 0 := 1; commit(0, 0, 0) = 1; commit(0, 0, 0) = 2; "
                + "commit(1, 0, 0) = 3; foretell(0, 3, 2) = 2; foretell(0, 3, 1) = 0; foretell(0, 0, 2) = 1; "
                + "foretell(3, 0, 2) = 0");
        Script.run("23: 3: NONE if it would be over", "foretell(0, 0, 3) = -9; " + Rows.TWO_SIDES
                + "foretell(1, 2, 3) = 3; foretell(1, 1, 3) = -9");
        Script.run("23: 4: 0 if it would be over", "foretell(0, 0, 4) = 0; " + Rows.TWO_SIDES
                + "foretell(1, 2, 4) = 1; foretell(1, 1, 4) = 0");
        // Nothing is merged there, so that the conflict that was met before must not count.
        Script.run("23: 4: 0 if it would be over, without a merge", Rows.TWO_SIDES + "merge(1, 2, 3, 1) = 1; "
                + "foretell(2, 3, 4) = 0; merge(1, 2, 3, 1) = 1; foretell(1, 3, 4) = 0");
        Script.run("23: 4: 0 if it would be over, after a conflict with a resolution", Rows.STOPPED + "slot 1 := 4; "
                + "settle(0, 1) = 1; skip() = 0; point(1, 3); foretell(1, 2, 0) = 0; foretell(1, 2, 4) = 0; "
                + "foretell(1, 2, 11) = 4");
        Script.run("23: 5: the number of lines of top at the end, 0 and 16", "foretell(0, 0, 5) = 0; " + SIXTEEN
                + "foretell(1, 2, 5) = 16; foretell(1, 0, 5) = 9");
        Script.run("23: 10 + i: line i of top (i is 0 to 15)", SIXTEEN + "foretell(1, 2, 10) = 31; "
                + "foretell(1, 2, 25) = 47; foretell(1, 2, 26) = -2");
        Script.run("23: NONE if there is no such line", "foretell(0, 0, 10) = -9; foretell(0, 0, 25) = -9; "
                + Rows.TWO_SIDES + "foretell(1, 1, 12) = 3; foretell(1, 1, 13) = -9; foretell(1, 1, 25) = -9");
        Script.run("23: what melts is no commit that it would make", "slot 0 := 1; commit(0, 0, 0) = 1; "
                + "slot 0 := 1, 2; commit(0, 2, 0) = 2; foretell(0, 0, 1) = 1; foretell(0, 0, 2) = 0; "
                + "foretell(0, 0, 5) = 2; foretell(0, 0, 11) = 2; foretell(0, 1, 1) = 1; foretell(0, 1, 5) = 2; "
                + "ofCommit(1, 2) = 1");
        Script.run("23: Nothing is changed, not even the trace", Rows.ONE_MADE + "foretell(1, 2, 0) = 1; "
                + "foretell(1, 0, 0) = 0; many(0) = 5; tip(1) = 4; status(0) = 0; status(1) = -9; status(2) = 0; "
                + "status(8) = -9; go() = -3; ofCommit(2, 2) = 3; fault() = 0; trace() = "
                + Rows.trace(1, 2, 7, 1, 2, 7, 1, 2, 7, 1, 2, 7, 1, 2, 7));
        Script.run("23: Nothing is changed, nor are the figures of the latest replay", "slot 0 := 1; "
                + "commit(0, 0, 0) = 1; commit(1, 0, 0) = 2; replay(1, 1) = 0; status(3) = 1; foretell(0, 0, 1) = 1; "
                + "foretell(1, 0, 2) = 0; status(2) = 0; status(3) = 1");
    }

    private static void foretellStopped() {
        Script.run("23: 4: how many conflicts would be open there, 0 for more than 16 lines", SEVENTEEN
                + "foretell(1, 2, 4) = 0; foretell(1, 2, 3) = 3");
        Script.run("23: 4: how many conflicts would be open there, with a resolution for one of two", """
                slot 0 := 1, 2, 3; commit(0, 0, 0) = 1; point(1, 1); slot 0 := 11, 2, 12, 13; commit(0, 0, 0) = 2
                slot 0 := 21, 2, 22; commit(1, 0, 0) = 3; foretell(1, 2, 4) = 2; replay(1, 2) = 1; slot 1 := 5
                settle(0, 1) = 1; skip() = 0; point(1, 3); foretell(1, 2, 4) = 1
                """);
        // What the document calls the end is read as where the replay would come to: it stops there.
        Script.run("23: 5 and 10 + i where it would stop", Rows.ONE_MADE + "foretell(1, 2, 3) = 4; "
                + "foretell(1, 2, 5) = 4; "
                + "foretell(1, 2, 13) = 4; foretell(1, 2, 11) = 8");
        Script.run("23: 1 and 2 where it would stop at the first one", Rows.TWO_SIDES + "foretell(1, 2, 1) = 0; "
                + "foretell(1, 2, 2) = 0; foretell(1, 2, 5) = 3; foretell(1, 2, 11) = 8");
        Script.run("23: one after another", Rows.ONE_MADE + "foretell(1, 0, 1) = 3; foretell(1, 2, 1) = 1; "
                + "foretell(1, 0, 5) = 4; foretell(1, 4, 1) = 0; foretell(1, 4, 5) = 4; foretell(0, 0, 5) = 3");
    }

    private static void foretellErrors() {
        Script.run("23: UNKNOWN if there is no such branch", "foretell(-1, 0, 0) = -1; foretell(4, 0, 0) = -1; "
                + "foretell(MIN, 0, 0) = -1; foretell(MAX, 0, 0) = -1");
        Script.run("23: UNKNOWN if there is no such commit", "foretell(0, -1, 0) = -1; foretell(0, 1, 0) = -1; "
                + "foretell(0, MIN, 0) = -1; foretell(0, MAX, 0) = -1");
        Script.run("23: OUTSIDE if what is none of these", "foretell(0, 0, -1) = -2; foretell(0, 0, 6) = -2; "
                + "foretell(0, 0, 9) = -2; foretell(0, 0, 26) = -2; foretell(0, 0, MIN) = -2; "
                + "foretell(0, 0, MAX) = -2");
        Script.run("23: STATE if a replay is under way", Rows.STOPPED + "foretell(3, 0, 0) = -3; "
                + "foretell(1, 2, 10) = -3; status(1) = 3; conflict(0, 30) = 8");
        Script.run("23: FULL as for replay(), 24", Rows.empties(0, 12) + "foretell(0, 1, 0) = 0; "
                + "foretell(0, 1, 1) = 11; many(0) = 13");
        Script.run("23: FULL as for replay(), 25", Rows.empties(0, 12) + "foretell(0, 0, 0) = -4; "
                + "foretell(0, 0, 5) = -4; foretell(0, 0, 25) = -4");
        Script.run("23: UNKNOWN before OUTSIDE before STATE", Rows.STOPPED + "foretell(4, 0, 6) = -1; "
                + "foretell(0, 4, 6) = -1; foretell(4, 0, 0) = -1; foretell(0, 0, 6) = -2; foretell(0, 0, 0) = -3");
        Script.run("23: UNKNOWN and OUTSIDE before FULL", Rows.empties(0, 12) + "foretell(0, 0, 6) = -2; "
                + "foretell(0, 13, 0) = -1; foretell(4, 0, 0) = -1; foretell(0, 0, 0) = -4");
        Script.run("23: STATE before FULL", Rows.empties(3, 18) + "slot 0 := 1; commit(0, 0, 0) = 19; slot 0 := 2; "
                + "commit(1, 0, 0) = 20; foretell(3, 0, 0) = -4; replay(1, 19) = 1; foretell(3, 0, 0) = -3");
    }
}
