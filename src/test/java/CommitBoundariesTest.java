/**
 * The boundary cases of CONVENTIONS, COMMITS and TRACE and of promises 1 to 12, a test for each
 * sentence of the document that names one. The title quotes the sentence.
 */
public final class CommitBoundariesTest {
    private CommitBoundariesTest() {
    }

    public static void main(String[] args) {
        conventions();
        lastCall();
        linesAndRows();
        commitsAndBranches();
        matching();
        changes();
        trace();
        newObject();
        commitEdges();
        commitErrors();
        commitOrderOfErrors();
        ofCommit();
        piece();
        mark();
        alike();
        fork();
        ahead();
        swaps();
        tip();
        point();
        anew();
        Script.end();
    }

    private static void conventions() {
        Script.run("CONVENTIONS: All numbering starts at 0", Rows.STOPPED + """
                tip(0) = 2; ofCommit(0, 4) = 1; ofCommit(1, 10) = 1; piece(1, 0, 30) = 1
                conflict(0, 10) = 2; slot 0 := 7; number(0, 0) = 7; settle(0, 0) = 1; resolution(0, 10) = 1
                """);
        Script.run("CONVENTIONS: all errors are checked before NONE is returned", Rows.STOPPED + """
                ofCommit(0, 1) = -9; ofCommit(4, 1) = -1; ofCommit(0, 6) = -2
                piece(1, 0, 10) = -9; piece(1, 1, 10) = -1; piece(1, 0, 26) = -2
                merge(1, 2, 3, 10) = -9; merge(1, 2, 4, 10) = -1; merge(1, 2, 3, 26) = -2; merge(1, 2, 3, 3) = -2
                conflict(0, 11) = -9; conflict(1, 11) = -1; conflict(0, 26) = -2
                slot 0 := 4; settle(0, 0) = 1
                resolution(0, 71) = -9; resolution(1, 71) = -1; resolution(0, 76) = -2
                status(1) = 3; go() = 0; status(1) = -9; status(9) = -2
                foretell(1, 1, 3) = -9; foretell(1, 5, 3) = -1; foretell(1, 1, 6) = -2
                hold(0, 1); anew(); held(0) = -9; held(5) = -1
                """);
        Script.run("CONVENTIONS: UNKNOWN, below the first one", Rows.STOPPED + """
                ofCommit(-1, 0) = -1; tip(-1) = -1; lose(-1) = -1; piece(1, -1, 0) = -1; conflict(-1, 0) = -1
                settle(0, 0) = 1; resolution(-1, 0) = -1; ofCommit(MIN, 0) = -1; tip(MIN) = -1; lose(MIN) = -1
                piece(1, MIN, 0) = -1; conflict(MIN, 0) = -1; resolution(MIN, 0) = -1
                """);
        Script.run("CONVENTIONS: UNKNOWN, behind the last one", Rows.STOPPED + """
                ofCommit(4, 0) = -1; tip(4) = -1; lose(5) = -1; piece(1, 1, 0) = -1; conflict(1, 0) = -1
                settle(0, 0) = 1; resolution(1, 0) = -1; ofCommit(MAX, 0) = -1; tip(MAX) = -1; lose(MAX) = -1
                piece(1, MAX, 0) = -1; conflict(MAX, 0) = -1; resolution(MAX, 0) = -1
                """);
        Script.run("CONVENTIONS: UNKNOWN, behind the last one of 24 commits", Rows.empties(0, 23) + """
                ofCommit(23, 0) = 1; ofCommit(24, 0) = -1; piece(24, 0, 0) = -1; mark(24) = -1; alike(24, 0) = -1
                alike(0, 24) = -1; fork(24, 0) = -1; ahead(0, 24) = -1; swaps(24) = -1; point(0, 24) = -1
                merge(24, 0, 0, 0) = -1; replay(0, 24) = -1; foretell(0, 24, 0) = -1; show(0, 24) = -1
                trail(0, 24) = -1; hold(0, 24) = -1; tell(24) = -1
                """);
        Script.run("CONVENTIONS: UNKNOWN, behind the last one of 8 resolutions", Rows.eightResolutions()
                + "resolution(7, 1) = 1; resolution(8, 1) = -1; forget(8) = -1; many(1) = 8");
        Script.run("CONVENTIONS: -11, fault 1 (null)", "as(0, 0) = -11; fault() = 1");
        Script.run("CONVENTIONS: -12, fault 2 (cast)", "hold(0, 0) = 1; as(0, 0) = -12; fault() = 2");
        Script.run("CONVENTIONS: -13, fault 3 (index)", "blank(0, 0, 1) = 1; write(0, 1, 0) = -13; fault() = 3");
        Script.run("CONVENTIONS: -14, fault 4 (negative size)", "blank(0, 0, -1) = -14; fault() = 4");
        Script.run("CONVENTIONS: number() returns LOST for each error", """
                number(5, 0) = LOST; number(0, 0) = LOST; hold(0, 0) = 1; number(0, 0) = LOST
                blank(0, 0, 1) = 1; number(0, 1) = LOST; number(0, 0) = 0
                """);
    }

    private static void lastCall() {
        Script.run("An object is used for at most 512 calls: the last ones answer, too",
                "slot 0 := 1, 2; commit(0, 0, 0) = 1; point(1, 0) = 0; slot 0 := 3; commit(1, 0, 0) = 2; "
                + "tell(1) = 2; ".repeat(495) + "replay(1, 1) = 1; settle(0, 0) = 1; foretell(1, 1, 0) = -3; "
                + "go() = 0; tip(1) = 3; ofCommit(3, 10) = 3; many(0) = 4");
    }

    private static void linesAndRows() {
        Script.run("COMMITS: A line is a number from 0 to 99, the edges", """
                slot 0 := 0; commit(0, 0, 0) = 1; ofCommit(1, 10) = 0; slot 0 := 99; commit(0, 0, 0) = 2
                ofCommit(2, 10) = 99
                """);
        Script.run("COMMITS: A line is a number from 0 to 99, not -1 and not 100", """
                slot 0 := -1; commit(0, 0, 0) = -2; slot 0 := 100; commit(0, 0, 0) = -2
                slot 0 := 127; commit(0, 0, 0) = -2; slot 0 := 128; commit(0, 0, 0) = -2; many(0) = 1
                """);
        Script.run("COMMITS: a row is a sequence of 0 to 16 lines, the edges", "blank(0, 0, 0) = 1; "
                + "commit(0, 0, 0) = 1; ofCommit(1, 2) = 0; ofCommit(1, 10) = -9; " + Rows.count(0, 84, 99)
                + "commit(0, 0, 0) = 2; ofCommit(2, 2) = 16; ofCommit(2, 10) = 84; ofCommit(2, 25) = 99");
        Script.run("COMMITS: a row is a sequence of 0 to 16 lines, not 17", "blank(0, 0, 17) = 1; "
                + "commit(0, 0, 0) = -2; blank(0, 0, 24) = 1; commit(0, 0, 0) = -2; many(0) = 1");
    }

    private static void commitsAndBranches() {
        Script.run("COMMITS: There are at most 24 commits, numbered in the order in which they are made",
                Rows.empties(0, 22) + "commit(1, 0, 0) = 23; ofCommit(22, 1) = 21; ofCommit(23, 1) = 0; "
                + "many(0) = 24; commit(2, 0, 0) = -4; many(0) = 24; tip(2) = 0");
        Script.run("COMMITS: a parent, which was made before it", "blank(0, 0, 0) = 1; commit(0, 0, 0) = 1; "
                + "commit(0, 0, 0) = 2; point(0, 0) = 2; commit(0, 0, 0) = 3; ofCommit(2, 1) = 1; "
                + "ofCommit(3, 1) = 0");
        Script.run("COMMITS: Commit 0 has no parent and an empty row, and is plain; at first the only commit",
                "ofCommit(0, 1) = -9; ofCommit(0, 2) = 0; ofCommit(0, 10) = -9; ofCommit(0, 0) = 0; many(0) = 1; "
                + "ofCommit(1, 0) = -1");
        Script.run("COMMITS: as classes, kept extends plain, and fix extends kept", """
                blank(0, 0, 0) = 1; commit(0, 1, 0) = 1; commit(0, 2, 0) = 2; hold(0, 0); hold(1, 1); hold(2, 2)
                as(0, 2) = 1; as(0, 3) = -12; as(0, 4) = -12; as(1, 2) = 1; as(1, 3) = 1; as(1, 4) = -12
                as(2, 2) = 1; as(2, 3) = 1; as(2, 4) = 1
                """);
        Script.run("COMMITS: The path consists of the commit, its parent, ..., up to commit 0",
                Rows.empties(0, 23) + "trail(1, 23) = 24; number(1, 0) = 0; number(1, 1) = 1; number(1, 23) = 23; "
                + "trail(1, 0) = 1; number(1, 0) = 0; ofCommit(0, 4) = 1; ofCommit(23, 4) = 24");
        Script.run("COMMITS: There are four branches, each points to a commit; at first to commit 0", """
                tip(0) = 0; tip(1) = 0; tip(2) = 0; tip(3) = 0; tip(4) = -1; blank(0, 0, 0); commit(3, 0, 0) = 1
                tip(3) = 1; tip(2) = 0
                """);
    }

    private static void matching() {
        Script.run("COMMITS: a longest common subsequence, rows with no common line",
                Rows.count(0, 0, 15) + "commit(0, 0, 0) = 1; " + Rows.count(0, 16, 31) + "commit(0, 0, 0) = 2; "
                + "ofCommit(2, 3) = 1; piece(2, 0, 0) = 16; piece(2, 0, 1) = 16; piece(2, 0, 25) = 15; "
                + "piece(2, 0, 45) = 31");
        Script.run("COMMITS: a longest common subsequence, equal rows of 16 lines", Rows.count(0, 0, 15)
                + "commit(0, 0, 0) = 1; commit(0, 0, 0) = 2; ofCommit(2, 3) = 0; piece(2, 0, 0) = -1");
        Script.run("COMMITS: a longest common subsequence, empty rows", """
                blank(0, 0, 0) = 1; commit(0, 0, 0) = 1; ofCommit(1, 3) = 0; slot 0 := 4; commit(0, 0, 0) = 2
                ofCommit(2, 3) = 1; piece(2, 0, 0) = 0; piece(2, 0, 1) = 1; blank(0, 0, 0) = 1
                commit(0, 0, 0) = 3; ofCommit(3, 3) = 1; piece(3, 0, 0) = 1; piece(3, 0, 1) = 0
                """);
        Script.run("COMMITS: from each pair to the next one i and j increase, lines that occur again", """
                slot 0 := 5, 5; commit(0, 0, 0) = 1; commit(0, 0, 0) = 2; ofCommit(2, 3) = 0
                slot 0 := 5, 5, 5; commit(0, 0, 0) = 3; ofCommit(3, 3) = 1; piece(3, 0, 0) = 0; piece(3, 0, 1) = 1
                slot 0 := 5; commit(0, 0, 0) = 4; ofCommit(4, 3) = 1; piece(4, 0, 0) = 2; piece(4, 0, 1) = 0
                """);
        // What a matching of long rows leaves behind must not count in one of short rows.
        Script.run("COMMITS: a longest common subsequence, short rows after rows of 16 lines", Rows.count(0, 1, 16)
                + "commit(0, 0, 0) = 1; commit(0, 0, 0) = 2; ofCommit(2, 3) = 0; slot 0 := 1, 2; commit(1, 0, 0) = 3; "
                + "slot 0 := 1, 3; commit(1, 0, 0) = 4; ofCommit(2, 3) = 0; ofCommit(4, 3) = 1; piece(4, 0, 10) = 2; "
                + "piece(4, 0, 30) = 3; piece(4, 0, 0) = 1; ofCommit(2, 3) = 0; ofCommit(3, 3) = 1; "
                + "piece(3, 0, 1) = 2; merge(2, 2, 2, 2) = 16; merge(3, 4, 3, 2) = 2; merge(3, 4, 3, 11) = 3; "
                + "merge(3, 4, 3, 0) = 0");
        // Counts that were left of the long rows behind the short ones' ends would hide or move their pairs.
        Script.run("COMMITS: a longest common subsequence, nothing of rows of 16 lines stays", Rows.count(0, 1, 16) + """
                commit(0, 0, 0) = 1; commit(0, 0, 0) = 2; slot 0 := 1; commit(1, 0, 0) = 3; slot 0 := 9, 8, 1
                commit(1, 0, 0) = 4; slot 0 := 1; commit(1, 0, 0) = 5; slot 0 := 7, 7; commit(1, 0, 0) = 6
                slot 0 := 1, 7; commit(1, 0, 0) = 7
                ofCommit(2, 3) = 0; piece(4, 0, 0) = 0; ofCommit(2, 3) = 0; piece(4, 0, 1) = 2
                ofCommit(2, 3) = 0; piece(5, 0, 0) = 2; ofCommit(2, 3) = 0; piece(5, 0, 1) = 0
                ofCommit(2, 3) = 0; ofCommit(7, 3) = 2
                """);
        // (1, 0), (2, 1) is longer than (0, 2), though the latter begins with the smaller i.
        Script.run("COMMITS: with as many pairs as possible", """
                slot 0 := 3, 1, 2; commit(0, 0, 0) = 1; slot 0 := 1, 2, 3; commit(0, 0, 0) = 2; ofCommit(2, 3) = 2
                piece(2, 0, 0) = 1; piece(2, 0, 1) = 0; piece(2, 0, 10) = 3; piece(2, 1, 0) = 0; piece(2, 1, 30) = 3
                """);
        // One pair each: (0, 1) by line 1, (1, 0) by line 2.
        Script.run("COMMITS: the first pair in which they differ decides: the one with the smaller i", """
                slot 0 := 1, 2; commit(0, 0, 0) = 1; slot 0 := 2, 1; commit(0, 0, 0) = 2; ofCommit(2, 3) = 2
                piece(2, 0, 0) = 0; piece(2, 0, 30) = 2; piece(2, 1, 10) = 2; piece(2, 1, 1) = 0
                """);
        // The first pairs are (0, 0) for all: the second is (1, 2) by line 2 or (2, 1) by line 3.
        Script.run("COMMITS: the first pair in which they differ decides, the second one", """
                slot 0 := 1, 2, 3; commit(0, 0, 0) = 1; slot 0 := 1, 3, 2; commit(0, 0, 0) = 2; ofCommit(2, 3) = 2
                piece(2, 0, 0) = 0; piece(2, 0, 30) = 3; piece(2, 1, 10) = 3; piece(2, 1, 1) = 0
                """);
        // (0, 0) and (0, 2) both match line 5: with (0, 0) the lines 6, 5 are behind it.
        Script.run("COMMITS: or with the same i and the smaller j", """
                slot 0 := 5; commit(0, 0, 0) = 1; slot 0 := 5, 6, 5; commit(0, 0, 0) = 2; ofCommit(2, 3) = 1
                piece(2, 0, 0) = 0; piece(2, 0, 1) = 2; piece(2, 0, 30) = 6; piece(2, 0, 31) = 5
                """);
        // The same with the rows changed: (0, 0) is taken before (2, 0).
        Script.run("COMMITS: the smaller i among equal lines", """
                slot 0 := 5, 6, 5; commit(0, 0, 0) = 1; slot 0 := 5; commit(0, 0, 0) = 2; ofCommit(2, 3) = 1
                piece(2, 0, 0) = 2; piece(2, 0, 10) = 6; piece(2, 0, 11) = 5; piece(2, 0, 1) = 0
                """);
    }

    private static void changes() {
        Script.run("COMMITS: before the first pair, between each pair and the next one, and after the last pair", """
                slot 0 := 1, 2, 3, 4; commit(0, 0, 0) = 1; slot 0 := 9, 1, 8, 7, 4, 6; commit(0, 0, 0) = 2
                ofCommit(2, 3) = 3; piece(2, 0, 0) = 0; piece(2, 0, 1) = 1; piece(2, 0, 30) = 9
                piece(2, 1, 0) = 2; piece(2, 1, 1) = 2; piece(2, 1, 10) = 2; piece(2, 1, 11) = 3
                piece(2, 1, 30) = 8; piece(2, 1, 31) = 7; piece(2, 2, 0) = 0; piece(2, 2, 1) = 1
                piece(2, 2, 30) = 6; piece(2, 3, 0) = -1
                """);
        Script.run("COMMITS: it is a piece if out or in is not empty", """
                slot 0 := 1, 2, 3; commit(0, 0, 0) = 1; slot 0 := 1, 3; commit(0, 0, 0) = 2; ofCommit(2, 3) = 1
                piece(2, 0, 0) = 1; piece(2, 0, 1) = 0; slot 0 := 1, 4, 3; commit(0, 0, 0) = 3; ofCommit(3, 3) = 1
                piece(3, 0, 0) = 0; piece(3, 0, 1) = 1; commit(0, 0, 0) = 4; ofCommit(4, 3) = 0
                """);
        // Ten lines that stay, and a line taken out or put in before, between and after them: no change of
        // rows of 16 lines has more pieces.
        Script.run("COMMITS: 11 pieces", "slot 0 := 40,1,2,42,3,4,44,5,6,46,7,8,48,9,10,50; commit(0, 0, 0) = 1; "
                + "slot 0 := 1,61,2,3,63,4,5,65,6,7,67,8,9,69,10,70; commit(0, 0, 0) = 2; ofCommit(2, 3) = 11; "
                + "piece(2, 0, 10) = 40; piece(2, 0, 1) = 0; piece(2, 1, 0) = 0; piece(2, 1, 30) = 61; "
                + "piece(2, 2, 10) = 42; piece(2, 9, 30) = 69; piece(2, 9, 31) = -9; piece(2, 10, 0) = 1; "
                + "piece(2, 10, 10) = 50; piece(2, 10, 30) = 70; piece(2, 11, 0) = -1; alike(2, 2) = 1; "
                + "alike(1, 2) = 0");
        Script.run("COMMITS: The change of commit 0 has no pieces", "ofCommit(0, 3) = 0; piece(0, 0, 0) = -1; "
                + "mark(0) = 0; blank(0, 0, 0); commit(0, 0, 0) = 1; alike(0, 1) = 1");
        Script.run("COMMITS: equal if they have the same number of pieces", """
                slot 0 := 1, 2; commit(0, 0, 0) = 1; slot 0 := 5, 1, 2; commit(0, 0, 0) = 2; point(0, 1)
                slot 0 := 5, 1, 6, 2; commit(0, 0, 0) = 3; alike(2, 3) = 0; alike(3, 2) = 0; alike(3, 3) = 1
                """);
        Script.run("COMMITS: equal out and equal in", """
                slot 0 := 1, 2; commit(0, 0, 0) = 1; slot 0 := 1; commit(0, 0, 0) = 2; point(0, 1); slot 0 := 2
                commit(0, 0, 0) = 3; alike(2, 3) = 0; point(0, 1); slot 0 := 1, 2, 5; commit(0, 0, 0) = 4
                point(0, 1); slot 0 := 1, 2, 6; commit(0, 0, 0) = 5; alike(4, 5) = 0
                point(0, 1); slot 0 := 1, 2, 5, 6; commit(0, 0, 0) = 6; alike(4, 6) = 0; alike(6, 4) = 0
                """);
        Script.run("COMMITS: (wherever they are)", """
                slot 0 := 1, 2; commit(0, 0, 0) = 1; slot 0 := 5, 1, 2; commit(0, 0, 0) = 2; point(0, 1)
                slot 0 := 1, 2, 5; commit(0, 0, 0) = 3; alike(2, 3) = 1
                """);
    }

    private static void trace() {
        Script.run("TRACE: 0 before commit 0 is made, which leaves 1, 2, 7", "trace() = " + Rows.trace(1, 2, 7));
        Script.run("TRACE: 31 * trace + the number (with overflow)", "tell(0) = 0; ".repeat(7)
                + "trace() = " + Rows.trace(1, 2, 7, 11, 11, 11, 11, 11, 11, 11));
        Script.run("TRACE: made by a call of commit() leaves 1, 2, 7", "blank(0, 0, 0); commit(0, 0, 0) = 1; "
                + "trace() = " + Rows.trace(1, 2, 7, 1, 2, 7));
        Script.run("TRACE: After these a kept commit leaves 3, 4", "blank(0, 0, 0); commit(0, 1, 0) = 1; "
                + "trace() = " + Rows.trace(1, 2, 7, 1, 2, 7, 3, 4));
        Script.run("TRACE: and a fix 3, 4, 5, 6", "blank(0, 0, 0); commit(0, 2, 0) = 1; trace() = "
                + Rows.trace(1, 2, 7, 1, 2, 7, 3, 4, 5, 6));
        Script.run("TRACE: one that is made by a replay leaves 1, 2", "slot 0 := 1; commit(0, 0, 0) = 1; "
                + "replay(0, 0) = 0; ofCommit(2, 5) = 1; trace() = " + Rows.trace(1, 2, 7, 1, 2, 7, 1, 2));
        Script.run("TRACE: one that is made by a replay, kept", "slot 0 := 1; commit(0, 1, 0) = 1; "
                + "replay(0, 0) = 0; trace() = " + Rows.trace(1, 2, 7, 1, 2, 7, 3, 4, 1, 2, 3, 4));
        Script.run("TRACE: one that is made by a replay, a fix", "slot 0 := 1; commit(0, 2, 0) = 1; "
                + "replay(0, 0) = 0; trace() = " + Rows.trace(1, 2, 7, 1, 2, 7, 3, 4, 5, 6, 1, 2, 3, 4, 5, 6));
        Script.run("TRACE: a commit that is refused leaves nothing", "commit(0, 0, 0) = -11; trace() = "
                + Rows.trace(1, 2, 7));
    }

    private static void newObject() {
        Script.run("1: commit 0 alone", "many(0) = 1; many(2) = 1; ofCommit(0, 0) = 0; ofCommit(1, 0) = -1");
        Script.run("1: no resolutions", "many(1) = 0; resolution(0, 0) = -1; forget(0) = -1");
        Script.run("1: empty slots", "many(3) = 0; as(0, 0) = -11; as(1, 0) = -11; as(2, 0) = -11; as(3, 0) = -11; "
                + "as(4, 0) = -11");
        Script.run("1: no replay", "go() = -3; skip() = -3; abort() = -3; status(0) = 0; status(1) = -9; "
                + "status(2) = 0; status(3) = 0; status(4) = 0; status(5) = 0; status(6) = 0; status(7) = 0; "
                + "status(8) = -9; conflict(0, 0) = -1");
    }

    private static void commitEdges() {
        Script.run("2: branch 0 to 3", "blank(0, 0, 0); commit(0, 0, 0) = 1; commit(3, 0, 0) = 2; tip(0) = 1; "
                + "tip(3) = 2");
        Script.run("2: kind 0 to 2", "blank(0, 0, 0); commit(0, 0, 0) = 1; commit(0, 2, 0) = 2; ofCommit(1, 0) = 0; "
                + "ofCommit(2, 0) = 2");
        Script.run("2: slot 0 to 4", "blank(0, 0, 0); blank(4, 0, 1); commit(0, 0, 0) = 1; commit(0, 0, 4) = 2; "
                + "ofCommit(2, 2) = 1");
        Script.run("2: Its row consists of the elements, and stays when the array changes", """
                slot 0 := 7, 8; commit(0, 0, 0) = 1; write(0, 0, 9); ofCommit(1, 10) = 7; lose(0) = 1
                ofCommit(1, 11) = 8
                """);
    }

    private static void commitErrors() {
        Script.run("2: UNKNOWN if there is no such branch", "blank(0, 0, 0); commit(-1, 0, 0) = -1; "
                + "commit(4, 0, 0) = -1; commit(MIN, 0, 0) = -1; commit(MAX, 0, 0) = -1; fault() = 0; many(0) = 1");
        Script.run("2: UNKNOWN if there is no such slot", "commit(0, 0, -1) = -1; commit(0, 0, 5) = -1; "
                + "commit(0, 0, MIN) = -1; commit(0, 0, MAX) = -1; fault() = 0; many(0) = 1");
        Script.run("2: OUTSIDE if kind is out of range", "blank(0, 0, 0); commit(0, -1, 0) = -2; "
                + "commit(0, 3, 0) = -2; commit(0, MIN, 0) = -2; commit(0, MAX, 0) = -2; fault() = 0; many(0) = 1");
        Script.run("2: STATE if a replay is under way", Rows.STOPPED + "commit(0, 0, 0) = -3; fault() = 0; "
                + "many(0) = 4; tip(0) = 2; abort() = 0; commit(0, 0, 0) = 4");
        Script.run("2: -12 if the slot holds an int array", "blank(0, 1, 1); commit(0, 0, 0) = -12; fault() = 2");
        Script.run("2: -12 if the slot holds a commit", "hold(0, 0); commit(0, 0, 0) = -12; fault() = 2");
        Script.run("2: -11 if it holds nothing", "commit(0, 0, 0) = -11; fault() = 1; blank(0, 0, 1); lose(0); "
                + "commit(0, 0, 0) = -11; fault() = 1");
        Script.run("2: OUTSIDE if the array has more than 16 elements", "blank(0, 0, 16); commit(0, 0, 0) = 1; "
                + "blank(0, 0, 17); commit(0, 0, 0) = -2; fault() = 0; blank(0, 0, 24); commit(0, 0, 0) = -2; "
                + "many(0) = 2");
        Script.run("2: OUTSIDE if the array has one that is not 0 to 99", """
                blank(0, 0, 16); write(0, 0, 100); commit(0, 0, 0) = -2; write(0, 0, -1); commit(0, 0, 0) = -2
                fault() = 0; write(0, 0, 0); write(0, 15, 100); commit(0, 0, 0) = -2; write(0, 15, -1)
                commit(0, 0, 0) = -2; write(0, 15, 99); commit(0, 0, 0) = 1; write(0, 7, 200); commit(0, 0, 0) = -2
                write(0, 7, 256); commit(0, 0, 0) = 2
                """);
        Script.run("2: FULL if there are 24 commits", Rows.empties(0, 22) + "commit(0, 0, 0) = 23; "
                + "commit(0, 0, 0) = -4; commit(3, 2, 0) = -4; fault() = 0; tip(0) = 23; many(0) = 24; anew() = 24; "
                + "commit(0, 0, 0) = 1");
    }

    private static void commitOrderOfErrors() {
        Script.run("2: UNKNOWN before the other errors", Rows.STOPPED + "commit(4, 3, 0) = -1; commit(0, 3, 5) = -1; "
                + "commit(4, 0, 0) = -1; commit(0, 0, 5) = -1; commit(4, 0, 4) = -1; abort() = 0; "
                + "commit(4, 0, 4) = -1; fault() = 0; blank(4, 1, 1); commit(4, 0, 4) = -1; blank(4, 0, 17); "
                + "commit(4, 0, 4) = -1; fault() = 0");
        Script.run("2: OUTSIDE of kind before STATE", Rows.STOPPED + "commit(0, 3, 0) = -2; commit(0, 0, 0) = -3");
        Script.run("2: OUTSIDE of kind before -12 and -11", "commit(0, 3, 0) = -2; fault() = 0; blank(0, 1, 1); "
                + "commit(0, 3, 0) = -2; fault() = 0; hold(0, 0); commit(0, -1, 0) = -2; fault() = 0");
        Script.run("2: STATE before -12, -11 and OUTSIDE of the array", Rows.STOPPED + """
                commit(0, 0, 4) = -3; fault() = 0; blank(4, 1, 1); commit(0, 0, 4) = -3; fault() = 0; hold(4, 0)
                commit(0, 0, 4) = -3; fault() = 0; blank(4, 0, 17); commit(0, 0, 4) = -3
                """);
        Script.run("2: -12, -11 and OUTSIDE before FULL", Rows.empties(0, 23) + """
                commit(0, 0, 0) = -4; commit(0, 0, 4) = -11; fault() = 1; blank(4, 1, 1); commit(0, 0, 4) = -12
                fault() = 2; blank(4, 0, 17); commit(0, 0, 4) = -2; slot 4 := 100; commit(0, 0, 4) = -2
                commit(0, 3, 0) = -2; commit(4, 0, 0) = -1; commit(0, 0, 5) = -1
                """);
    }

    private static void ofCommit() {
        Script.run("3: 1: its parent, NONE for commit 0", "ofCommit(0, 1) = -9; blank(0, 0, 0); "
                + "commit(0, 0, 0) = 1; ofCommit(1, 1) = 0");
        Script.run("3: 4: the number of commits on its path", Rows.empties(0, 23) + "ofCommit(0, 4) = 1; "
                + "ofCommit(1, 4) = 2; ofCommit(23, 4) = 24");
        Script.run("3: 5: its origin, NONE if no replay made it", "slot 0 := 1; commit(0, 0, 0) = 1; "
                + "replay(0, 0) = 0; ofCommit(0, 5) = -9; ofCommit(1, 5) = -9; ofCommit(2, 5) = 1; "
                + "replay(0, 0) = 0; ofCommit(3, 5) = 2");
        Script.run("3: 10 + i: line i (i is 0 to 15), NONE if it has no such line", Rows.count(0, 50, 65)
                + "commit(0, 0, 0) = 1; ofCommit(1, 10) = 50; ofCommit(1, 25) = 65; slot 0 := 4, 5; "
                + "commit(0, 0, 0) = 2; ofCommit(2, 11) = 5; ofCommit(2, 12) = -9; ofCommit(2, 25) = -9; "
                + "ofCommit(0, 10) = -9; ofCommit(0, 25) = -9");
        Script.run("3: UNKNOWN if there is no such commit", "ofCommit(-1, 0) = -1; ofCommit(1, 0) = -1; "
                + "ofCommit(MIN, 0) = -1; ofCommit(MAX, 0) = -1; ofCommit(1, 99) = -1; ofCommit(-1, -1) = -1");
        Script.run("3: OUTSIDE if what is none of these", Rows.count(0, 50, 65) + "commit(0, 0, 0) = 1; "
                + "ofCommit(1, -1) = -2; ofCommit(1, 6) = -2; ofCommit(1, 7) = -2; ofCommit(1, 8) = -2; "
                + "ofCommit(1, 9) = -2; ofCommit(1, 26) = -2; ofCommit(1, MIN) = -2; ofCommit(1, MAX) = -2; "
                + "ofCommit(0, 26) = -2");
    }

    private static void piece() {
        Script.run("4: 10 + i: line i of out (i is 0 to 15)", Rows.count(0, 50, 65) + "commit(0, 0, 0) = 1; "
                + "blank(0, 0, 0); commit(0, 0, 0) = 2; piece(2, 0, 0) = 16; piece(2, 0, 1) = 0; "
                + "piece(2, 0, 10) = 50; piece(2, 0, 25) = 65; piece(2, 0, 26) = -2");
        Script.run("4: 30 + i: line i of in (i is 0 to 15)", Rows.count(0, 50, 65) + "commit(0, 0, 0) = 1; "
                + "piece(1, 0, 0) = 0; piece(1, 0, 1) = 16; piece(1, 0, 30) = 50; piece(1, 0, 45) = 65; "
                + "piece(1, 0, 46) = -2");
        Script.run("4: NONE if there is no such line", "slot 0 := 7; commit(0, 0, 0) = 1; piece(1, 0, 10) = -9; "
                + "piece(1, 0, 25) = -9; piece(1, 0, 30) = 7; piece(1, 0, 31) = -9; piece(1, 0, 45) = -9; "
                // The line behind the piece's own is in the row, but not in the piece.
                + "slot 0 := 8, 7; commit(0, 0, 0) = 2; piece(2, 0, 30) = 8; piece(2, 0, 31) = -9");
        Script.run("4: UNKNOWN if there is no such commit", "piece(-1, 0, 0) = -1; piece(1, 0, 0) = -1; "
                + "piece(MIN, 0, 0) = -1; piece(MAX, 0, 0) = -1; piece(1, 0, 99) = -1");
        Script.run("4: UNKNOWN if there is no such piece", "slot 0 := 7; commit(0, 0, 0) = 1; piece(1, -1, 0) = -1; "
                + "piece(1, 1, 0) = -1; piece(1, MIN, 0) = -1; piece(1, MAX, 0) = -1; piece(0, 0, 0) = -1; "
                + "piece(1, 1, 99) = -1; piece(1, -1, -1) = -1; piece(1, 0, 1) = 1");
        Script.run("4: OUTSIDE if what is none of these", "slot 0 := 7; commit(0, 0, 0) = 1; piece(1, 0, -1) = -2; "
                + "piece(1, 0, 2) = -2; piece(1, 0, 9) = -2; piece(1, 0, 26) = -2; piece(1, 0, 29) = -2; "
                + "piece(1, 0, 46) = -2; piece(1, 0, MIN) = -2; piece(1, 0, MAX) = -2");
    }

    private static void mark() {
        int[] s = new int[100];
        s[0] = 7;
        for (int line = 1; line < 100; line++) {
            s[line] = (73 * s[line - 1] + 29) % 1009;
        }
        Script.run("5: S(0) is 7, and line 99", "slot 0 := 0; commit(0, 0, 0) = 1; mark(1) = "
                + Rows.trace(1, 0, 1, 7) + "; slot 0 := 99; commit(0, 0, 0) = 2; mark(2) = "
                + Rows.trace(1, 1, 7, 1, s[99]));
        Script.run("5: The hash is the number of pieces at first", "mark(0) = 0; slot 0 := 1, 2; commit(0, 0, 0) = 1; "
                + "commit(0, 0, 0) = 2; mark(2) = 0; slot 0 := 3, 1, 4, 2; commit(0, 0, 0) = 3; mark(3) = "
                + Rows.trace(2, 0, 1, s[3], 0, 1, s[4]));
        int hash = Rows.trace(1, 0, 16);
        for (int line = 84; line < 100; line++) {
            hash = 31 * hash + s[line];
        }
        Script.run("5: (int arithmetic with overflow)", Rows.count(0, 84, 99) + "commit(0, 0, 0) = 1; mark(1) = "
                + hash);
        Script.run("5: out, then in", "slot 0 := 1, 2; commit(0, 0, 0) = 1; slot 0 := 3; commit(0, 0, 0) = 2; "
                + "mark(2) = " + Rows.trace(1, 2, s[1], s[2], 1, s[3]));
        Script.run("5: UNKNOWN if there is no such commit", "mark(-1) = -1; mark(1) = -1; mark(MIN) = -1; "
                + "mark(MAX) = -1");
    }

    private static void alike() {
        Script.run("6: of a commit and itself, and of changes without pieces", "slot 0 := 1; commit(0, 0, 0) = 1; "
                + "commit(0, 2, 0) = 2; alike(1, 1) = 1; alike(0, 2) = 1; alike(2, 0) = 1; alike(0, 1) = 0; "
                + "alike(1, 0) = 0");
        Script.run("6: whole rows of 16 lines", Rows.count(0, 0, 15) + "commit(0, 0, 0) = 1; commit(1, 1, 0) = 2; "
                + "write(0, 15, 16); commit(2, 0, 0) = 3; alike(1, 2) = 1; alike(1, 3) = 0");
        // Changes with two pieces are looked at before: their second pieces are none of those behind.
        Script.run("6: changes with one piece after changes with two", """
                slot 0 := 1, 2; commit(0, 0, 0) = 1; slot 0 := 5, 1, 6, 2; commit(0, 0, 0) = 2; point(0, 1)
                slot 0 := 5, 1, 7, 2; commit(0, 0, 0) = 3; point(0, 1); slot 0 := 8, 1, 2; commit(0, 0, 0) = 4
                point(0, 1); slot 0 := 1, 8, 2; commit(0, 0, 0) = 5; alike(2, 3) = 0; alike(4, 5) = 1
                alike(3, 2) = 0; alike(5, 4) = 1
                """);
        Script.run("6: UNKNOWN if there is no such commit", "alike(-1, 0) = -1; alike(0, -1) = -1; alike(1, 0) = -1; "
                + "alike(0, 1) = -1; alike(MIN, 0) = -1; alike(0, MAX) = -1; alike(1, 1) = -1");
    }

    private static void fork() {
        Script.run("7: of a commit and itself, of a commit and one on its path", "blank(0, 0, 0); "
                + "commit(0, 0, 0) = 1; commit(0, 0, 0) = 2; fork(2, 2) = 2; fork(2, 1) = 1; fork(1, 2) = 1; "
                + "fork(0, 2) = 0; fork(0, 0) = 0");
        Script.run("7: the one nearest to both", "blank(0, 0, 0); commit(0, 0, 0) = 1; commit(0, 0, 0) = 2; "
                + "point(1, 2); commit(0, 0, 0) = 3; commit(1, 0, 0) = 4; fork(3, 4) = 2; fork(4, 3) = 2; "
                + "commit(2, 0, 0) = 5; fork(5, 4) = 0; fork(4, 5) = 0");
        Script.run("7: UNKNOWN if there is no such commit", "fork(-1, 0) = -1; fork(0, -1) = -1; fork(1, 0) = -1; "
                + "fork(0, 1) = -1; fork(MAX, 0) = -1; fork(0, MIN) = -1; fork(1, 1) = -1");
    }

    private static void ahead() {
        Script.run("8: none and all but commit 0", Rows.empties(0, 22) + "commit(1, 0, 0) = 23; ahead(22, 22) = 0; "
                + "ahead(22, 23) = 22; ahead(23, 22) = 1; ahead(22, 0) = 22; ahead(0, 22) = 0; ahead(0, 0) = 0; "
                + "ahead(22, 21) = 1; ahead(21, 22) = 0");
        Script.run("8: UNKNOWN if there is no such commit", "ahead(-1, 0) = -1; ahead(0, -1) = -1; ahead(1, 0) = -1; "
                + "ahead(0, 1) = -1; ahead(MIN, 0) = -1; ahead(0, MAX) = -1; ahead(1, 1) = -1");
    }

    private static void swaps() {
        Script.run("9: It can if there is no conflict in either", "slot 0 := 1, 2, 3; commit(0, 0, 0) = 1; "
                + "slot 0 := 9, 1, 2, 3; commit(0, 0, 0) = 2; slot 0 := 9, 1, 2, 3, 8; commit(0, 0, 0) = 3; "
                + "swaps(3) = 1");
        Script.run("9: not with a conflict in the first merge", "slot 0 := 1; commit(0, 0, 0) = 1; slot 0 := 2; "
                + "commit(0, 0, 0) = 2; slot 0 := 3; commit(0, 0, 0) = 3; swaps(3) = 0");
        // The lines around the conflict alone, [0, 1, 0], would give the row of c in the second merge.
        Script.run("9: not with a conflict in the first merge alone", "slot 0 := 0, 1, 0, 1; commit(0, 0, 0) = 1; "
                + "slot 0 := 1, 0, 0, 1; commit(0, 0, 0) = 2; slot 0 := 1, 0, 0; commit(0, 0, 0) = 3; "
                + "merge(2, 1, 3, 0) = 1; swaps(3) = 0");
        // Settled by 0, x would be [1, 0, 1, 0], and the second merge has no conflict and gives the row of c.
        Script.run("9: not with a conflict in the first merge, nor with a resolution for it", """
                slot 0 := 1, 0, 1; commit(0, 0, 0) = 1; slot 0 := 0, 1, 1; commit(0, 0, 0) = 2
                slot 0 := 0, 1, 1, 0; commit(0, 0, 0) = 3; swaps(3) = 0; point(1, 2); slot 0 := 1, 0, 1
                commit(1, 0, 0) = 4; point(2, 3); replay(2, 4) = 1; slot 1 := 0; settle(0, 1) = 1
                merge(2, 1, 3, 0) = 1; merge(2, 1, 3, 2) = 4; merge(2, 1, 3, 10) = 1; merge(2, 1, 3, 13) = 0
                swaps(3) = 0; abort(); point(1, 1); slot 0 := 1, 0, 1, 0; commit(1, 0, 0) = 5
                merge(1, 5, 2, 0) = 0; merge(1, 5, 2, 2) = 4; merge(1, 5, 2, 10) = 0; merge(1, 5, 2, 13) = 0
                """);
        Script.run("9: commits whose changes are none", "slot 0 := 1; commit(0, 0, 0) = 1; commit(0, 0, 0) = 2; "
                + "commit(0, 0, 0) = 3; swaps(2) = 1; swaps(3) = 1");
        String sixteen = Rows.count(0, 1, 16) + "commit(0, 0, 0) = 1; " + Rows.count(0, 2, 16)
                + "commit(0, 0, 0) = 2; ";
        Script.run("9: x has at most 16 lines, 17", sixteen + Rows.count(0, 2, 17)
                + "commit(0, 0, 0) = 3; swaps(3) = 0; merge(2, 1, 3, 2) = 17; merge(2, 1, 3, 0) = 0");
        Script.run("9: x has at most 16 lines, 16", Rows.count(0, 1, 15) + "commit(0, 0, 0) = 1; "
                + Rows.count(0, 2, 15) + "commit(0, 0, 0) = 2; " + Rows.count(0, 2, 16)
                + "commit(0, 0, 0) = 3; swaps(3) = 1; merge(2, 1, 3, 2) = 16");
        // x is [1] again, and merging [1], [1] and [2] gives [2], which is not [1].
        Script.run("9: the second result equals the row of c", "slot 0 := 1; commit(0, 0, 0) = 1; slot 0 := 2; "
                + "commit(0, 0, 0) = 2; slot 0 := 1; commit(0, 0, 0) = 3; merge(2, 1, 3, 0) = 0; swaps(3) = 0");
        // With the resolution, which puts 7 into every such gap, both merges would give the row of c.
        Script.run("9: Resolutions do not matter", Rows.TWO_SIDES + "write(0, 1, 7); commit(0, 0, 0) = 4; "
                + "swaps(4) = 0; replay(1, 2) = 1; slot 1 := 7; settle(0, 1) = 1; merge(2, 1, 4, 1) = 0; "
                + "merge(2, 1, 4, 0) = 1; merge(2, 1, 4, 11) = 7; swaps(4) = 0; go() = 0; swaps(4) = 0");
        // x is [0, 1, 1, 1] without a conflict; the second merge has one, which 1 would settle to the row of c.
        Script.run("9: not with a conflict in the second merge, nor with a resolution for it", """
                slot 0 := 0, 1, 1; commit(0, 0, 0) = 1; slot 0 := 1, 0, 1; commit(0, 0, 0) = 2
                slot 0 := 1, 0, 1, 1; commit(0, 0, 0) = 3; merge(2, 1, 3, 0) = 0; merge(2, 1, 3, 2) = 4
                swaps(3) = 0; point(1, 1); slot 0 := 0, 1, 1, 1; commit(1, 0, 0) = 4; merge(1, 4, 2, 0) = 1
                point(2, 2); replay(2, 4) = 1; slot 1 := 1; settle(0, 1) = 1; merge(1, 4, 2, 2) = 4
                merge(1, 4, 2, 10) = 1; merge(1, 4, 2, 11) = 0; merge(1, 4, 2, 12) = 1; merge(1, 4, 2, 13) = 1
                swaps(3) = 0
                """);
        Script.run("9: UNKNOWN if there is no such commit", "swaps(-1) = -1; swaps(1) = -1; swaps(MIN) = -1; "
                + "swaps(MAX) = -1");
        Script.run("9: STATE if c is commit 0", "swaps(0) = -3; anew(); swaps(0) = -3");
        Script.run("9: STATE if its parent is commit 0", "slot 0 := 1; commit(0, 0, 0) = 1; swaps(1) = -3; "
                + "commit(0, 0, 0) = 2; swaps(2) = 1; commit(1, 0, 0) = 3; swaps(3) = -3");
        Script.run("9: while a replay is under way", Rows.TWO_SIDES + "swaps(2) = 0; swaps(1) = -3; "
                + "replay(1, 2) = 1; swaps(2) = 0; swaps(1) = -3; swaps(4) = -1");
    }

    private static void tip() {
        Script.run("10: branch 0 to 3", "blank(0, 0, 0); commit(0, 0, 0) = 1; commit(3, 0, 0) = 2; tip(0) = 1; "
                + "tip(1) = 0; tip(2) = 0; tip(3) = 2");
        Script.run("10: UNKNOWN if there is no such branch", "tip(-1) = -1; tip(4) = -1; tip(MIN) = -1; tip(MAX) = -1");
    }

    private static void point() {
        Script.run("11: Returns the commit to which it pointed before", "blank(0, 0, 0); commit(0, 0, 0) = 1; "
                + "point(0, 1) = 1; point(0, 0) = 1; point(0, 0) = 0; point(3, 1) = 0; tip(3) = 1; tip(0) = 0");
        Script.run("11: UNKNOWN if there is no such branch", "point(-1, 0) = -1; point(4, 0) = -1; "
                + "point(MIN, 0) = -1; point(MAX, 0) = -1");
        Script.run("11: UNKNOWN if there is no such commit", "point(0, -1) = -1; point(0, 1) = -1; "
                + "point(0, MIN) = -1; point(0, MAX) = -1; tip(0) = 0");
        Script.run("11: STATE if a replay is under way", Rows.STOPPED + "point(0, 0) = -3; point(1, 0) = -3; "
                + "tip(0) = 2; tip(1) = 3; point(4, 0) = -1; point(0, 4) = -1; skip() = 0; point(0, 0) = 2");
    }

    private static void anew() {
        Script.run("12: Returns how many commits there were, 1 and 24", "anew() = 1; anew() = 1; "
                + Rows.empties(0, 23) + "anew() = 24; many(0) = 1");
        Script.run("12: Removes all commits", Rows.TWO_SIDES + "anew() = 4; many(0) = 1; ofCommit(1, 0) = -1; "
                + "ofCommit(0, 2) = 0; ofCommit(0, 1) = -9; commit(0, 0, 0) = 1; ofCommit(1, 1) = 0");
        Script.run("12: and resolutions", Rows.STOPPED + "slot 0 := 4; settle(0, 0) = 1; "
                + "go() = 0; many(1) = 1; anew() = 5; many(1) = 0; "
                + "resolution(0, 0) = -1; " + Rows.TWO_SIDES + "merge(1, 2, 3, 1) = 1");
        Script.run("12: to which all branches point", Rows.empties(0, 3) + "point(1, 1); point(2, 2); point(3, 3); "
                + "anew() = 4; tip(0) = 0; tip(1) = 0; tip(2) = 0; tip(3) = 0; many(2) = 1");
        Script.run("12: The results of status() are as at first", Rows.STOPPED + "slot 1 := 4; settle(0, 1) = 1; "
                + "go() = 0; status(2) = 1; status(5) = 1; anew() = 5; status(0) = 0; status(1) = -9; "
                + "status(2) = 0; status(3) = 0; status(4) = 0; status(5) = 0; status(6) = 0; status(7) = 0; "
                + "status(8) = -9");
        Script.run("12: The results of status() are as at first, what was left out and melted", """
                slot 0 := 1; commit(0, 0, 0) = 1; commit(0, 0, 0) = 2; slot 0 := 1, 2; commit(0, 2, 0) = 3
                replay(0, 0) = 0; status(2) = 1; status(3) = 1; status(4) = 1; anew() = 5; status(2) = 0
                status(3) = 0; status(4) = 0
                """);
        Script.run("12: The slots stay", "slot 0 := 7; blank(1, 1, 2); write(1, 1, 700); hold(2, 0); anew() = 1; "
                + "number(0, 0) = 7; number(1, 1) = 700; as(2, 2) = 1; held(2) = -9; many(3) = 3; held(3) = -11");
        Script.run("12: and the trace stays (but making commit 0 changes the trace)", "tell(0) = 0; anew() = 1; "
                + "trace() = " + Rows.trace(1, 2, 7, 11, 1, 2, 7));
        Script.run("12: STATE if a replay is under way", Rows.STOPPED + "anew() = -3; many(0) = 4; status(0) = 1; "
                + "abort() = 0; anew() = 4");
    }
}
