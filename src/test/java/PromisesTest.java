/**
 * A test for each promise of the document: ordinary inputs, the edges that it names, wrong inputs,
 * and the order of errors where several apply.
 */
public final class PromisesTest {
    private static final String LOST = "-9223372036854775808";
    private static final int MAX = Integer.MAX_VALUE;
    private static final int MIN = Integer.MIN_VALUE;

    private PromisesTest() {
    }

    public static void main(String[] args) {
        newObject();
        commit();
        ofCommit();
        piece();
        mark();
        alike();
        forkAndAhead();
        swaps();
        tipAndPoint();
        anew();
        merge();
        resolution();
        forget();
        replay();
        replayLeavesOut();
        replayMelts();
        go();
        skip();
        abort();
        status();
        conflict();
        settle();
        foretell();
        blank();
        showAndTrail();
        holdAndHeld();
        as();
        lose();
        writeAndNumber();
        copy();
        tellAndTrace();
        fault();
        many();
        Script.end();
    }

    private static void newObject() {
        Script.run("1 a new object", "many(0) = 1; many(1) = 0; many(2) = 1; many(3) = 0; tip(0) = 0; tip(1) = 0; "
                + "tip(2) = 0; tip(3) = 0; trace() = 1030; fault() = 0; status(0) = 0; status(1) = -9; status(2) = 0; "
                + "status(3) = 0; status(4) = 0; status(5) = 0; status(6) = 0; status(7) = 0; status(8) = -9; "
                + "lose(0) = 0; lose(4) = 0; resolution(0, 0) = -1; ofCommit(0, 2) = 0; ofCommit(1, 0) = -1");
    }

    private static void commit() {
        Script.run("2 commit", "slot 0 := 0, 99; commit(0, 0, 0) = 1; commit(0, 1, 0) = 2; commit(3, 2, 0) = 3; "
                + "tip(0) = 2; tip(3) = 3; tip(1) = 0; ofCommit(1, 1) = 0; ofCommit(2, 1) = 1; ofCommit(3, 1) = 0; "
                + "ofCommit(2, 10) = 0; ofCommit(2, 11) = 99; write(0, 0, 5) = 1; ofCommit(2, 10) = 0; "
                + "blank(0, 0, 16) = 1; commit(1, 0, 0) = 4; ofCommit(4, 2) = 16; "
                + "blank(0, 0, 0) = 1; commit(1, 0, 0) = 5; ofCommit(5, 2) = 0");
        Script.run("2 commit, wrong", "commit(-1, 0, 0) = -1; commit(4, 0, 0) = -1; commit(0, 0, -1) = -1; "
                + "commit(0, 0, 5) = -1; commit(4, 3, 0) = -1; commit(0, 3, 5) = -1; commit(0, -1, 0) = -2; "
                + "commit(0, 3, 0) = -2; commit(0, 0, 0) = -11; fault() = 1; hold(0, 0) = 1; commit(0, 0, 0) = -12; "
                + "fault() = 2; commit(0, 3, 0) = -2; fault() = 0; blank(0, 1, 1) = 1; commit(0, 0, 0) = -12; "
                + "blank(0, 0, 17) = 1; commit(0, 0, 0) = -2; slot 0 := 100; commit(0, 0, 0) = -2; "
                + "slot 0 := 1, -1; commit(0, 0, 0) = -2; fault() = 0; many(0) = 1; tip(0) = 0; trace() = 1030");
        Script.run("2 commit, full", "blank(0, 0, 0); blank(1, 0, 17); " + "commit(0, 0, 0); ".repeat(22)
                + "commit(0, 0, 0) = 23; many(0) = 24; commit(0, 0, 0) = -4; commit(0, 0, 1) = -2; "
                + "commit(0, 0, 2) = -11; commit(0, 3, 0) = -2; tip(0) = 23; ofCommit(23, 4) = 24");
        Script.run("2 commit, in a replay", Rows.TWO_SIDES + "replay(1, 2) = 1; commit(0, 0, 0) = -3; "
                + "commit(0, 3, 0) = -2; commit(0, 0, 4) = -3; fault() = 0; commit(0, 0, 5) = -1");
    }

    private static void ofCommit() {
        Script.run("3 ofCommit", "slot 0 := 4, 5; commit(2, 1, 0) = 1; commit(2, 2, 0) = 2; ofCommit(0, 0) = 0; "
                + "ofCommit(1, 0) = 1; ofCommit(2, 0) = 2; ofCommit(0, 1) = -9; ofCommit(1, 1) = 0; "
                + "ofCommit(2, 1) = 1; ofCommit(1, 2) = 2; ofCommit(0, 3) = 0; ofCommit(1, 3) = 1; "
                + "ofCommit(2, 3) = 0; ofCommit(0, 4) = 1; ofCommit(2, 4) = 3; ofCommit(2, 5) = -9; "
                + "ofCommit(1, 10) = 4; ofCommit(1, 11) = 5; ofCommit(1, 12) = -9; ofCommit(1, 25) = -9; "
                + "ofCommit(1, 26) = -2; ofCommit(1, 9) = -2; ofCommit(1, 6) = -2; ofCommit(1, -1) = -2; "
                + "ofCommit(3, 0) = -1; ofCommit(-1, 0) = -1; ofCommit(24, 99) = -1; "
                + "ofCommit(1, " + MIN + ") = -2; ofCommit(1, " + MAX + ") = -2; ofCommit(" + MAX + ", 0) = -1");
        Script.run("3 ofCommit, the last line", "blank(0, 0, 16); write(0, 15, 42); commit(0, 0, 0) = 1; "
                + "ofCommit(1, 25) = 42; ofCommit(1, 26) = -2");
        Script.run("3 ofCommit, origin", Rows.TWO_SIDES + "slot 0 := 1, 2, 3, 4; point(2, 1); commit(2, 1, 0) = 4; "
                + "replay(2, 2) = 0; ofCommit(5, 5) = 4; ofCommit(5, 0) = 1; ofCommit(5, 1) = 2; "
                + "ofCommit(4, 5) = -9");
    }

    private static void piece() {
        Script.run("4 piece", "slot 0 := 1, 2, 3, 4; commit(0, 0, 0) = 1; slot 0 := 7, 1, 3, 5, 6; "
                + "commit(0, 0, 0) = 2; ofCommit(2, 3) = 3; piece(2, 0, 0) = 0; piece(2, 0, 1) = 1; "
                + "piece(2, 0, 10) = -9; piece(2, 0, 30) = 7; piece(2, 1, 0) = 1; piece(2, 1, 1) = 0; "
                + "piece(2, 1, 10) = 2; piece(2, 1, 30) = -9; piece(2, 2, 0) = 1; piece(2, 2, 1) = 2; "
                + "piece(2, 2, 10) = 4; piece(2, 2, 11) = -9; piece(2, 2, 30) = 5; piece(2, 2, 31) = 6; "
                + "piece(2, 2, 45) = -9; piece(2, 2, 25) = -9; piece(2, 2, 26) = -2; piece(2, 2, 29) = -2; "
                + "piece(2, 2, 46) = -2; piece(2, 2, 2) = -2; piece(2, 2, 9) = -2; piece(2, 2, -1) = -2; "
                + "piece(2, 2, " + MIN + ") = -2; piece(2, 3, 0) = -1; piece(2, 3, 99) = -1; piece(2, -1, 0) = -1; "
                + "piece(3, 0, 0) = -1; piece(-1, 0, 0) = -1; piece(0, 0, 0) = -1");
        // Of the matchings of [1, 2] and [2, 1] the pair (0, 1) is taken before (1, 0).
        Script.run("4 piece, the smaller i", "slot 0 := 1, 2; commit(0, 0, 0) = 1; slot 0 := 2, 1; "
                + "commit(0, 0, 0) = 2; ofCommit(2, 3) = 2; piece(2, 0, 0) = 0; piece(2, 0, 30) = 2; "
                + "piece(2, 1, 1) = 0; piece(2, 1, 10) = 2");
        // [5] and [5, 5]: (0, 0) before (0, 1), so that the second line is new.
        Script.run("4 piece, the smaller j", "slot 0 := 5; commit(0, 0, 0) = 1; slot 0 := 5, 5; "
                + "commit(0, 0, 0) = 2; slot 0 := 5, 6, 5; commit(0, 0, 0) = 3; slot 0 := 5; commit(0, 0, 0) = 4; "
                + "ofCommit(2, 3) = 1; ofCommit(4, 3) = 1; piece(4, 0, 0) = 2; piece(4, 0, 10) = 6; "
                + "piece(4, 0, 11) = 5");
        // As many pairs as possible goes before the smaller first i.
        Script.run("4 piece, the longest", "slot 0 := 3, 1, 2; commit(0, 0, 0) = 1; slot 0 := 1, 2, 3; "
                + "commit(0, 0, 0) = 2; ofCommit(2, 3) = 2; piece(2, 0, 10) = 3; piece(2, 0, 1) = 0; "
                + "piece(2, 1, 0) = 0; piece(2, 1, 30) = 3");
        Script.run("4 piece, lines that occur again", "slot 0 := 1, 1; commit(0, 0, 0) = 1; commit(0, 0, 0) = 2; "
                + "ofCommit(2, 3) = 0; slot 0 := 1, 1, 1; commit(0, 0, 0) = 3; ofCommit(3, 3) = 1; "
                + "piece(3, 0, 0) = 0; piece(3, 0, 1) = 1; slot 0 := 1, 2, 1, 1; commit(0, 0, 0) = 4; "
                + "ofCommit(4, 3) = 1; piece(4, 0, 30) = 2");
        Script.run("4 piece, whole rows", "blank(0, 0, 16); write(0, 15, 1); commit(0, 0, 0) = 1; blank(0, 0, 0); "
                + "commit(0, 0, 0) = 2; piece(1, 0, 0) = 0; piece(1, 0, 1) = 16; piece(1, 0, 45) = 1; "
                + "piece(2, 0, 0) = 16; piece(2, 0, 1) = 0; piece(2, 0, 25) = 1");
    }

    private static void mark() {
        // S(0) = 7, S(1) = (73 * 7 + 29) % 1009 = 540.
        long hash = ((((1L * 31 + 0) * 31 + 2) * 31 + 7) * 31) + 540;
        // S(2) = (73 * 540 + 29) % 1009 = 98; out is [1], in is [2].
        long next = (((1L * 31 + 1) * 31 + 540) * 31 + 1) * 31 + 98;
        Script.run("5 mark", "mark(0) = 0; slot 0 := 0, 1; commit(0, 0, 0) = 1; mark(1) = " + hash
                + "; slot 0 := 0, 2; commit(0, 0, 0) = 2; mark(2) = " + next
                + "; commit(0, 0, 0) = 3; mark(3) = 0; mark(4) = -1; mark(-1) = -1");
        int big = 1;
        big = 31 * big;
        big = 31 * big + 16;
        int[] s = new int[100];
        s[0] = 7;
        for (int line = 1; line < 100; line++) {
            s[line] = (73 * s[line - 1] + 29) % 1009;
        }
        StringBuilder lines = new StringBuilder();
        for (int i = 0; i < 16; i++) {
            big = 31 * big + s[99 - i];
            lines.append(i == 0 ? "" : ", ").append(99 - i);
        }
        Script.run("5 mark, overflow", "slot 0 := " + lines + "; commit(0, 0, 0) = 1; mark(1) = " + big);
    }

    private static void alike() {
        Script.run("6 alike", "slot 0 := 1, 2; commit(0, 0, 0) = 1; slot 0 := 1, 5, 2; commit(0, 0, 0) = 2; "
                + "slot 0 := 1, 2, 5; point(0, 1); commit(0, 0, 0) = 3; slot 0 := 1, 2, 6; point(0, 1); "
                + "commit(0, 0, 0) = 4; slot 0 := 1, 5; point(0, 1); commit(0, 0, 0) = 5; slot 0 := 1, 5, 2, 5; "
                + "point(0, 1); commit(0, 2, 0) = 6; alike(2, 3) = 1; alike(3, 2) = 1; alike(3, 4) = 0; "
                + "alike(3, 5) = 0; alike(3, 6) = 0; alike(6, 3) = 0; alike(0, 0) = 1; alike(0, 1) = 0; "
                + "alike(6, 6) = 1; alike(0, 7) = -1; alike(7, 0) = -1; alike(-1, 0) = -1; alike(0, -1) = -1");
    }

    private static void forkAndAhead() {
        Script.run("7 fork, 8 ahead", "blank(0, 0, 0); commit(0, 0, 0) = 1; commit(0, 0, 0) = 2; point(1, 1); "
                + "commit(1, 0, 0) = 3; commit(1, 0, 0) = 4; commit(2, 0, 0) = 5; fork(2, 4) = 1; fork(4, 2) = 1; "
                + "fork(3, 4) = 3; fork(4, 3) = 3; fork(4, 4) = 4; fork(5, 4) = 0; fork(0, 4) = 0; "
                + "fork(6, 0) = -1; fork(0, 6) = -1; fork(-1, 0) = -1; fork(0, -1) = -1; ahead(2, 4) = 1; "
                + "ahead(4, 2) = 2; ahead(4, 4) = 0; ahead(4, 0) = 3; ahead(0, 4) = 0; ahead(4, 5) = 3; "
                + "ahead(6, 0) = -1; ahead(0, 6) = -1; ahead(-1, 0) = -1; ahead(0, -1) = -1");
    }

    private static void swaps() {
        Script.run("9 swaps", "slot 0 := 1, 2, 3; commit(0, 0, 0) = 1; slot 0 := 9, 1, 2, 3; commit(0, 0, 0) = 2; "
                + "slot 0 := 9, 1, 2, 3, 8; commit(0, 0, 0) = 3; slot 0 := 9, 1, 2, 3, 7; commit(0, 0, 0) = 4; "
                + "swaps(0) = -3; swaps(1) = -3; swaps(2) = 0; swaps(3) = 1; swaps(4) = 0; swaps(5) = -1; "
                + "swaps(-1) = -1");
        // Undoing the parent's change: x is [2], and merging [1] (base), [2], [2] gives [2], not [1].
        Script.run("9 swaps, back again", "slot 0 := 1; commit(0, 0, 0) = 1; slot 0 := 2; commit(0, 0, 0) = 2; "
                + "slot 0 := 1; commit(0, 0, 0) = 3; swaps(3) = 0");
        // x would have 17 lines: the parent takes a line away, and the commit puts one on.
        Script.run("9 swaps, x too long", "slot 0 := 1,2,3,4,5,6,7,8,9,10,11,12,13,14,15,16; commit(0, 0, 0) = 1; "
                + "slot 0 := 2,3,4,5,6,7,8,9,10,11,12,13,14,15,16; commit(0, 0, 0) = 2; "
                + "slot 0 := 2,3,4,5,6,7,8,9,10,11,12,13,14,15,16,17; commit(0, 0, 0) = 3; swaps(3) = 0");
        Script.run("9 swaps, x as long as can be", "slot 0 := 1,2,3,4,5,6,7,8,9,10,11,12,13,14,15; "
                + "commit(0, 0, 0) = 1; slot 0 := 2,3,4,5,6,7,8,9,10,11,12,13,14,15; commit(0, 0, 0) = 2; "
                + "slot 0 := 2,3,4,5,6,7,8,9,10,11,12,13,14,15,17; commit(0, 0, 0) = 3; swaps(3) = 1");
        // A recorded resolution of the shape 1, 0, 1, 1, 1, 2 does not let [1] - [2] - [3] swap.
        Script.run("9 swaps, resolutions do not matter", "slot 0 := 1; commit(0, 0, 0) = 1; slot 0 := 2; "
                + "commit(0, 0, 0) = 2; slot 0 := 3; commit(0, 0, 0) = 3; point(1, 1); slot 0 := 5; "
                + "commit(1, 0, 0) = 4; swaps(3) = 0; replay(1, 2) = 1; conflict(0, 3) = 6; settle(0, 0) = 1; "
                + "merge(2, 1, 3, 0) = 1; merge(2, 1, 3, 1) = 0; swaps(3) = 0");
    }

    private static void tipAndPoint() {
        Script.run("10 tip, 11 point", "blank(0, 0, 0); commit(0, 0, 0) = 1; commit(0, 0, 0) = 2; tip(0) = 2; "
                + "point(3, 2) = 0; tip(3) = 2; point(3, 1) = 2; tip(3) = 1; tip(0) = 2; tip(4) = -1; tip(-1) = -1; "
                + "point(4, 0) = -1; point(-1, 0) = -1; point(0, 3) = -1; point(0, -1) = -1; tip(0) = 2");
        Script.run("11 point, in a replay", Rows.TWO_SIDES + "replay(1, 2) = 1; point(2, 1) = -3; point(4, 1) = -1; "
                + "point(2, 4) = -1; tip(2) = 0; tip(1) = 3; abort() = 0; point(2, 1) = 0; tip(2) = 1");
    }

    private static void anew() {
        Script.run("12 anew", Rows.TWO_SIDES + "slot 1 := 7; blank(2, 1, 3); hold(3, 0); hold(4, 3); replay(1, 2) = 1; "
                + "anew() = -3; settle(0, 1) = 1; go() = 0; status(2) = 1; status(5) = 1; many(0) = 5; anew() = 5; "
                + "many(0) = 1; many(1) = 0; many(2) = 1; many(3) = 5; tip(0) = 0; tip(1) = 0; tip(2) = 0; "
                + "ofCommit(0, 1) = -9; ofCommit(0, 2) = 0; ofCommit(1, 0) = -1; status(0) = 0; status(1) = -9; "
                + "status(2) = 0; status(3) = 0; status(4) = 0; status(5) = 0; number(1, 0) = 7; held(3) = -9; "
                + "held(4) = -9; as(4, 2) = 1; commit(0, 0, 1) = 1; held(3) = -9; hold(3, 0) = 1; held(3) = 0; "
                + "resolution(0, 0) = -1; anew() = 2; anew() = 1; held(3) = -9");
        // 0, then 1, 2, 7 twice.
        Script.run("12 anew, trace", "anew() = 1; trace() = " + Rows.trace(1, 2, 7, 1, 2, 7));
    }

    private static void merge() {
        Script.run("13 merge", "slot 0 := 1, 2, 3; commit(0, 0, 0) = 1; slot 0 := 0, 1, 2, 3; commit(0, 0, 0) = 2; "
                + "point(1, 1); slot 0 := 1, 2, 4; commit(1, 0, 0) = 3; merge(1, 2, 3, 0) = 0; merge(1, 2, 3, 1) = 0; "
                + "merge(1, 2, 3, 2) = 4; merge(1, 2, 3, 10) = 0; merge(1, 2, 3, 11) = 1; merge(1, 2, 3, 12) = 2; "
                + "merge(1, 2, 3, 13) = 4; merge(1, 2, 3, 14) = -9; merge(1, 2, 3, 25) = -9; merge(1, 2, 3, 26) = -2; "
                + "merge(1, 2, 3, 3) = -2; merge(1, 2, 3, 9) = -2; merge(1, 2, 3, -1) = -2; "
                + "merge(1, 2, 3, " + MIN + ") = -2; merge(4, 2, 3, 0) = -1; merge(1, 4, 3, 0) = -1; "
                + "merge(1, 2, 4, 0) = -1; merge(-1, 2, 3, 3) = -1; merge(1, 3, 3, 0) = 0; merge(1, 3, 3, 2) = 3; "
                + "merge(1, 1, 3, 12) = 4; merge(1, 3, 1, 12) = 4; merge(0, 1, 1, 2) = 3");
        Script.run("13 merge, conflicts", Rows.TWO_SIDES + "merge(1, 2, 3, 0) = 1; merge(1, 2, 3, 1) = 1; "
                + "merge(1, 2, 3, 2) = -9; merge(1, 2, 3, 10) = -9; merge(1, 2, 3, 26) = -2; trace(); "
                + "replay(1, 2) = 1; slot 1 := 8, 9; settle(0, 1) = 1; merge(1, 2, 3, 0) = 1; merge(1, 2, 3, 1) = 0; "
                + "merge(1, 2, 3, 2) = 4; merge(1, 2, 3, 11) = 8; merge(1, 2, 3, 12) = 9; "
                // The same shape with the sides changed: the first side is then 9.
                + "merge(1, 3, 2, 1) = 0; merge(1, 3, 2, 11) = 9; merge(1, 3, 2, 12) = 8; many(0) = 4; status(0) = 1");
        // Twelve lines in front on one side, twelve behind on the other, four in common.
        Script.run("13 merge, more than 16 lines", "slot 0 := 1, 2, 3, 4; commit(0, 0, 0) = 1; point(1, 1); "
                + "slot 0 := 50,51,52,53,54,55,56,57,58,59,60,61,1,2,3,4; commit(0, 0, 0) = 2; "
                + "slot 0 := 1,2,3,4,70,71,72,73,74,75,76,77,78,79,80,81; commit(1, 0, 0) = 3; "
                + "merge(1, 2, 3, 0) = 0; merge(1, 2, 3, 2) = 28; merge(1, 2, 3, 25) = 4; merge(1, 2, 3, 10) = 50");
        // Eight conflicts of one shape, each of which becomes six lines, around seven stable lines.
        Script.run("13 merge, many resolutions", "slot 0 := 1,2,3,4,5,6,7; commit(0, 0, 0) = 1; point(1, 1); "
                + "slot 0 := 11,1,12,2,13,3,14,4,15,5,16,6,17,7,18; commit(0, 0, 0) = 2; "
                + "slot 0 := 21,1,22,2,23,3,24,4,25,5,26,6,27,7,28; commit(1, 0, 0) = 3; replay(1, 2) = 1; "
                + "status(7) = 8; slot 1 := 11, 11, 11, 21, 21, 90; settle(0, 1) = 1; merge(1, 2, 3, 0) = 8; "
                + "merge(1, 2, 3, 1) = 0; merge(1, 2, 3, 2) = 55; merge(1, 2, 3, 16) = 1; merge(1, 2, 3, 17) = 12; "
                + "merge(1, 2, 3, 20) = 22; merge(1, 2, 3, 22) = 90; go() = 2; status(5) = 0");
        // A line that only one side keeps is not stable: 1 is kept by theirs alone.
        Script.run("13 merge, stable in both", "slot 0 := 1, 2; commit(0, 0, 0) = 1; point(1, 1); slot 0 := 2; "
                + "commit(0, 0, 0) = 2; slot 0 := 3, 1, 2; commit(1, 0, 0) = 3; merge(1, 2, 3, 0) = 1; "
                + "merge(1, 3, 2, 0) = 1");
    }

    private static void resolution() {
        Script.run("14 resolution", Rows.TWO_SIDES + "resolution(0, 0) = -1; replay(1, 2) = 1; "
                + "slot 1 := 9, 2, 8, 77, 0; "
                + "settle(0, 1) = 1; resolution(0, 0) = 6; resolution(0, 1) = 5; resolution(0, 10) = 1; "
                + "resolution(0, 11) = 0; resolution(0, 12) = 1; resolution(0, 13) = 1; resolution(0, 14) = 1; "
                + "resolution(0, 15) = 2; resolution(0, 16) = -9; resolution(0, 60) = -9; resolution(0, 61) = -2; "
                + "resolution(0, 69) = -2; resolution(0, 70) = 2; resolution(0, 71) = 0; resolution(0, 72) = 1; "
                + "resolution(0, 73) = 177; resolution(0, 74) = 100; resolution(0, 75) = -9; resolution(0, 76) = -2; "
                + "resolution(0, 2) = -2; resolution(0, 9) = -2; resolution(0, -1) = -2; "
                + "resolution(0, " + MIN + ") = -2; resolution(1, 0) = -1; resolution(1, 99) = -1; "
                + "resolution(-1, 0) = -1");
        // 3 + 48 numbers: three rows of 16 lines without a common one.
        Script.run("14 resolution, the longest shape", Rows.count(0, 1, 16) + "commit(0, 0, 0) = 1; point(1, 1); "
                + Rows.count(0, 20, 35) + "commit(0, 0, 0) = 2; "
                + "" + Rows.count(0, 40, 55) + "commit(1, 0, 0) = 3; replay(1, 2) = 1; "
                + "conflict(0, 3) = 51; conflict(0, 120) = 47; conflict(0, 104) = 16; slot 1 := 55, 55, 55, 55, 55, 1; "
                + "settle(0, 1) = 1; resolution(0, 0) = 51; resolution(0, 60) = 47; resolution(0, 70) = 47; "
                + "resolution(0, 75) = 0; go() = 0; ofCommit(4, 2) = 6; ofCommit(4, 10) = 55");
    }

    private static void forget() {
        // Three conflicts of different shapes: one line, two lines and three lines on our side.
        String three = "slot 0 := 1, 2, 3, 4, 5; commit(0, 0, 0) = 1; point(1, 1); "
                + "slot 0 := 10, 2, 11, 12, 4, 13, 14, 15; commit(0, 0, 0) = 2; slot 0 := 20, 2, 21, 4, 22; "
                + "commit(1, 0, 0) = 3; replay(1, 2) = 1; status(7) = 3; slot 1 := 61; slot 2 := 62; slot 3 := 63; ";
        Script.run("15 forget", three + "settle(0, 1) = 1; settle(0, 2) = 2; settle(0, 3) = 3; settle(0, 3) = -1; "
                + "resolution(1, 70) = 162; forget(1) = 2; resolution(0, 70) = 161; resolution(1, 70) = 163; "
                + "resolution(2, 70) = -1; many(1) = 2; status(7) = 1; forget(2) = -1; forget(-1) = -1; "
                + "forget(0) = 1; resolution(0, 70) = 163; forget(0) = 0; forget(0) = -1; status(7) = 3");
    }

    private static void replay() {
        Script.run("16 replay", "slot 0 := 1, 2, 3; commit(0, 0, 0) = 1; point(1, 1); slot 0 := 1, 2, 3, 4; "
                + "commit(0, 0, 0) = 2; slot 0 := 0, 1, 2, 3; commit(1, 1, 0) = 3; slot 0 := 0, 0, 1, 2, 3; "
                + "commit(1, 0, 0) = 4; replay(1, 2) = 0; tip(1) = 6; many(0) = 7; ofCommit(5, 0) = 1; "
                + "ofCommit(5, 1) = 2; ofCommit(5, 5) = 3; ofCommit(6, 1) = 5; ofCommit(6, 5) = 4; ofCommit(6, 2) = 6; "
                + "ofCommit(6, 10) = 0; ofCommit(6, 11) = 0; ofCommit(6, 15) = 4; ofCommit(4, 1) = 3; tip(0) = 2; "
                + "status(2) = 2; status(3) = 0; many(2) = 5");
        Script.run("16 replay, forward and back", "slot 0 := 1; commit(0, 0, 0) = 1; slot 0 := 2; "
                + "commit(0, 0, 0) = 2; replay(1, 2) = 0; tip(1) = 2; many(0) = 3; replay(1, 0) = 0; tip(1) = 4; "
                + "ofCommit(3, 5) = 1; ofCommit(4, 5) = 2; ofCommit(4, 1) = 3; ofCommit(3, 1) = 0; "
                + "replay(1, 4) = 0; tip(1) = 4; many(0) = 5");
        Script.run("16 replay, wrong", Rows.TWO_SIDES + "replay(4, 0) = -1; replay(-1, 0) = -1; replay(0, 4) = -1; "
                + "replay(0, -1) = -1; replay(1, 2) = 1; replay(1, 2) = -3; replay(4, 2) = -1; replay(1, 4) = -1");
        Script.run("16 replay, full", "blank(0, 0, 0); " + "commit(0, 1, 0); ".repeat(11) + "commit(1, 1, 0) = 12; "
                + "replay(0, 12) = 0; many(0) = 24; replay(0, 0) = -4; replay(1, 0) = -4; replay(0, 23) = 0; "
                + "tip(1) = 12; replay(1, 23) = 0; tip(1) = 23; replay(2, 11) = 0; tip(2) = 11; many(0) = 24");
        Script.run("16 replay, one too many", "blank(0, 0, 0); " + "commit(0, 1, 0); ".repeat(12)
                + "commit(1, 1, 0) = 13; replay(0, 13) = -4; tip(0) = 12; many(0) = 14; status(2) = 0");
        // The stop at more than 16 lines: 10 lines on each side of the common ones.
        Script.run("16 replay, too long", longMerge() + "replay(1, 2) = 2; status(0) = 2; status(1) = 3; "
                + "status(7) = 0; conflict(0, 0) = -1; go() = 2; many(0) = 4; skip() = 0; status(3) = 1; tip(1) = 2");
        Script.run("16 replay, 16 lines are not too long", "slot 0 := 1, 2; commit(0, 0, 0) = 1; point(1, 1); "
                + "slot 0 := 31,32,33,34,35,36,37,1,2; commit(0, 0, 0) = 2; slot 0 := 1,2,41,42,43,44,45,46,47; "
                + "commit(1, 0, 0) = 3; foretell(1, 2, 0) = 0; foretell(1, 2, 5) = 16; foretell(1, 2, 25) = 47; "
                + "replay(1, 2) = 0; ofCommit(4, 2) = 16; ofCommit(4, 25) = 47");
    }

    private static String longMerge() {
        return "slot 0 := 1, 2; commit(0, 0, 0) = 1; point(1, 1); slot 0 := 31,32,33,34,35,36,37,38,1,2; "
                + "commit(0, 0, 0) = 2; slot 0 := 1,2,41,42,43,44,45,46,47; commit(1, 0, 0) = 3; ";
    }

    private static void replayLeavesOut() {
        // Commit 3 puts 9 behind 2, as commit 2 does elsewhere; a kept commit 5 does the same.
        String same = "slot 0 := 1, 2; commit(0, 0, 0) = 1; point(1, 1); point(2, 1); slot 0 := 9, 1, 2; "
                + "commit(0, 0, 0) = 2; slot 0 := 1, 9, 2; commit(1, 0, 0) = 3; commit(2, 1, 0) = 4; ";
        Script.run("16 replay, the change is there already", same + "alike(2, 3) = 1; replay(1, 2) = 0; status(2) = 0; "
                + "status(3) = 1; tip(1) = 2; replay(2, 2) = 0; status(2) = 1; status(3) = 0; tip(2) = 5; "
                + "ofCommit(5, 2) = 4");
        // The change that is equal is on the branch's own path, too: it does not count.
        Script.run("16 replay, a change below the fork", "slot 0 := 9; commit(0, 0, 0) = 1; point(1, 1); "
                + "slot 0 := 9, 8; commit(0, 0, 0) = 2; slot 0 := 9, 9; commit(1, 0, 0) = 3; alike(1, 3) = 1; "
                + "slot 0 := 5, 9; point(3, 1); commit(3, 0, 0) = 4; replay(1, 4) = 0; "
                + "status(2) = 1; status(3) = 0; ofCommit(5, 2) = 3");
        // Both sides come to the same row by different changes: nothing is left to change.
        Script.run("16 replay, nothing changes", "slot 0 := 1, 2; commit(0, 0, 0) = 1; point(1, 1); point(2, 1); "
                + "slot 0 := 1; commit(0, 0, 0) = 2; slot 0 := 1, 3; commit(0, 0, 0) = 3; slot 0 := 1, 3; "
                + "commit(1, 0, 0) = 4; commit(2, 1, 0) = 5; replay(1, 3) = 0; status(2) = 0; status(3) = 1; "
                + "tip(1) = 3; replay(2, 3) = 0; status(2) = 1; ofCommit(6, 3) = 0; ofCommit(6, 0) = 1");
    }

    private static void replayMelts() {
        String fixes = "slot 0 := 1, 2; commit(0, 0, 0) = 1; point(1, 1); slot 0 := 5, 1, 2; commit(0, 0, 0) = 2; "
                + "slot 0 := 1, 2, 3; commit(1, 2, 0) = 3; slot 0 := 1, 2, 3, 4; commit(1, 2, 0) = 4; "
                + "commit(1, 2, 0) = 5; slot 0 := 1, 2, 3, 4, 6; commit(1, 0, 0) = 6; slot 0 := 1, 2, 3, 4, 7; "
                + "commit(1, 2, 0) = 7; ";
        // A fix onto a commit that the replay did not make stays a commit; the next ones melt into it.
        Script.run("16 replay, fixes melt", fixes + "replay(1, 2) = 0; status(2) = 2; status(3) = 0; status(4) = 3; "
                + "many(0) = 10; tip(1) = 9; ofCommit(8, 0) = 2; ofCommit(8, 5) = 3; ofCommit(8, 2) = 5; "
                + "ofCommit(8, 14) = 4; ofCommit(9, 0) = 0; ofCommit(9, 5) = 6; ofCommit(9, 2) = 6; "
                + "ofCommit(9, 15) = 7; ofCommit(9, 3) = 1; ofCommit(7, 2) = 5; ofCommit(3, 2) = 3");
        Script.run("23 foretell, fixes melt", fixes + "foretell(1, 2, 0) = 0; foretell(1, 2, 1) = 2; "
                + "foretell(1, 2, 2) = 0; foretell(1, 2, 5) = 6; foretell(1, 2, 15) = 7; foretell(1, 2, 16) = -9; "
                + "many(0) = 8; ofCommit(2, 2) = 3; tip(1) = 7");
    }

    private static void go() {
        Script.run("17 go", Rows.TWO_SIDES + "go() = -3; slot 0 := 1, 9, 4; commit(1, 0, 0) = 4; replay(1, 2) = 1; "
                + "go() = 1; status(1) = 3; slot 1 := 8, 9; settle(0, 1) = 1; tip(1) = 4; status(0) = 1; go() = 0; "
                + "go() = -3; tip(1) = 6; ofCommit(5, 2) = 4; ofCommit(5, 11) = 8; ofCommit(5, 12) = 9; "
                + "ofCommit(6, 13) = 4; status(2) = 2; status(5) = 1");
        // The second commit conflicts as well, in another shape.
        Script.run("17 go, stops again", Rows.TWO_SIDES + "slot 0 := 1, 9, 7, 3; commit(1, 0, 0) = 4; "
                + "replay(1, 2) = 1; "
                + "slot 1 := 8; settle(0, 1) = 1; status(6) = 1; go() = 1; status(1) = 4; status(6) = 0; "
                + "status(3) = 1; status(5) = 1; conflict(0, 0) = 1; conflict(0, 1) = 1; conflict(0, 2) = 2");
        // After the settled commit the next one is looked at from step 1 on: its change is there already.
        Script.run("17 go, the next one from the beginning", "slot 0 := 1, 2, 3; commit(0, 0, 0) = 1; point(1, 1); "
                + "slot 0 := 1, 8, 3; commit(0, 0, 0) = 2; slot 0 := 6, 1, 8, 3; commit(0, 0, 0) = 3; "
                + "slot 0 := 1, 9, 3; commit(1, 0, 0) = 4; slot 0 := 1, 9, 3, 6; commit(1, 0, 0) = 5; "
                + "replay(1, 3) = 1; slot 1 := 9; settle(0, 1) = 1; go() = 0; status(3) = 1; status(2) = 1; "
                + "tip(1) = 6; ofCommit(6, 2) = 4; ofCommit(6, 12) = 9");
    }

    private static void skip() {
        Script.run("18 skip", Rows.TWO_SIDES + "skip() = -3; slot 0 := 1, 9, 3, 4; commit(1, 0, 0) = 4; "
                + "replay(1, 2) = 1; "
                + "skip() = 0; skip() = -3; status(2) = 1; status(3) = 1; tip(1) = 5; ofCommit(5, 2) = 4; "
                + "ofCommit(5, 11) = 8; ofCommit(5, 13) = 4; ofCommit(5, 5) = 4; ofCommit(5, 1) = 2");
        Script.run("18 skip, stops again", Rows.TWO_SIDES + "slot 0 := 1, 7, 3; commit(1, 0, 0) = 4; replay(1, 2) = 1; "
                + "skip() = 1; status(1) = 4; status(3) = 1; status(6) = 0; skip() = 0; status(3) = 2; tip(1) = 2; "
                + "many(0) = 5");
        // After a skip the next commit is looked at from step 1 on: its change is there already.
        Script.run("18 skip, the next one from the beginning", "slot 0 := 1, 2, 3; commit(0, 0, 0) = 1; point(1, 1); "
                + "slot 0 := 1, 8, 3; commit(0, 0, 0) = 2; slot 0 := 6, 1, 8, 3; commit(0, 0, 0) = 3; "
                + "slot 0 := 1, 9, 3; commit(1, 0, 0) = 4; slot 0 := 1, 9, 3, 6; commit(1, 0, 0) = 5; "
                + "replay(1, 3) = 1; skip() = 0; status(3) = 2; status(2) = 0; tip(1) = 3");
    }

    private static void abort() {
        Script.run("19 abort", Rows.TWO_SIDES + "slot 1 := 4; point(2, 1); slot 2 := 1, 2, 3, 6; commit(2, 0, 2) = 4; "
                + "slot 2 := 1, 7, 3, 6; commit(2, 0, 2) = 5; abort() = -3; "
                // An earlier replay leaves figures and a resolution.
                + "replay(1, 2) = 1; settle(0, 1) = 1; go() = 0; tip(1) = 6; status(2) = 1; status(5) = 1; "
                + "forget(0) = 0; replay(2, 2) = 1; many(0) = 8; status(1) = 5; status(2) = 1; status(5) = 0; "
                + "settle(0, 1) = 1; hold(3, 7) = 1; held(3) = 7; hold(4, 6) = 1; trace(); abort() = 1; abort() = -3; "
                + "many(0) = 7; many(1) = 0; status(0) = 0; status(1) = -9; status(2) = 1; status(3) = 0; "
                + "status(5) = 1; status(8) = -9; tip(2) = 5; tip(1) = 6; held(3) = -9; as(3, 2) = 1; held(4) = 6; "
                + "ofCommit(7, 0) = -1; point(2, 0) = 5; commit(2, 0, 2) = 7; held(3) = -9");
        Script.run("19 abort, forgotten ones come back", Rows.TWO_SIDES + "slot 1 := 4; replay(1, 2) = 1; "
                + "settle(0, 1) = 1; go() = 0; point(2, 1) = 0; slot 2 := 5; commit(2, 0, 2) = 5; replay(2, 2) = 1; "
                + "forget(0) = 0; abort() = 0; many(1) = 1; resolution(0, 70) = 104; tip(2) = 5");
        Script.run("19 abort, new ones go and forgotten ones come back", Rows.TWO_SIDES + "slot 1 := 4; "
                + "replay(1, 2) = 1; settle(0, 1) = 1; go() = 0; point(2, 1) = 0; slot 2 := 5, 6; "
                + "commit(2, 0, 2) = 5; replay(2, 2) = 1; forget(0) = 0; settle(0, 2) = 1; resolution(0, 1) = 2; "
                + "abort() = 0; many(1) = 1; resolution(0, 1) = 1; resolution(0, 0) = 6; resolution(0, 70) = 104");
        // The trace stays: what the replay made has left 1, 2 in it.
        Script.run("19 abort, trace", Rows.TWO_SIDES + "slot 0 := 1, 9, 3; point(2, 1); slot 2 := 1, 2, 3, 6; "
                + "commit(2, 1, 2) = 4; slot 2 := 1, 7, 3, 6; commit(2, 0, 2) = 5; replay(2, 2) = 1; abort() = 1; "
                + "trace() = " + Rows.trace(1, 2, 7, 1, 2, 7, 1, 2, 7, 1, 2, 7, 1, 2, 7, 3, 4, 1, 2, 7, 1, 2, 3, 4));
    }

    private static void status() {
        Script.run("20 status", Rows.TWO_SIDES + "slot 1 := 1, 9, 3, 4; commit(1, 2, 1) = 4; slot 1 := 1, 9, 3, 5; "
                + "commit(1, 2, 1) = 5; replay(1, 2) = 1; status(0) = 1; status(1) = 3; status(2) = 0; status(3) = 0; "
                + "status(4) = 0; status(5) = 0; status(6) = 2; status(7) = 1; status(8) = 2; status(9) = -2; "
                + "status(-1) = -2; slot 1 := 9; settle(0, 1) = 1; status(0) = 1; status(7) = 0; status(5) = 0; "
                + "go() = 0; status(0) = 0; status(1) = -9; status(2) = 1; status(3) = 0; status(4) = 2; "
                + "status(5) = 1; status(6) = 0; status(7) = 0; status(8) = -9; replay(0, 0) = 0; status(4) = 0; "
                + "status(5) = 0; status(2) = 2");
        // A merge that stops for its length has used a resolution, which does not count then.
        Script.run("20 status, merges at which it stopped", "slot 0 := 1, 2, 3; commit(0, 0, 0) = 1; point(1, 1); "
                + "slot 0 := 8, 2, 3, 31, 32, 33, 34, 35, 36, 37; commit(0, 0, 0) = 2; "
                + "slot 0 := 9, 41, 42, 43, 44, 45, 46, 47, 2, 3; commit(1, 0, 0) = 3; slot 1 := 1, 9, 8, 5, 6, 7; "
                + "replay(1, 2) = 1; settle(0, 1) = 1; go() = 0; status(5) = 1; ofCommit(4, 2) = 15");
        Script.run("20 status, too long with a resolution", "slot 0 := 1, 2, 3; commit(0, 0, 0) = 1; point(1, 1); "
                + "slot 0 := 8, 2, 3, 31, 32, 33, 34, 35, 36, 37, 38, 39; commit(0, 0, 0) = 2; "
                + "slot 0 := 9, 2, 3; commit(1, 0, 0) = 3; slot 1 := 1, 9, 8, 5, 6, 7; replay(1, 2) = 1; "
                + "settle(0, 1) = 1; go() = 2; status(0) = 2; status(5) = 0; status(7) = 0; forget(0) = 0; "
                + "status(0) = 2; status(7) = 1; go() = 1; status(0) = 1");
    }

    private static void conflict() {
        Script.run("21 conflict", "conflict(0, 0) = -1; " + Rows.TWO_SIDES + "conflict(0, 0) = -1; replay(1, 2) = 1; "
                + "conflict(0, 0) = 1; conflict(0, 1) = 1; conflict(0, 2) = 1; conflict(0, 3) = 6; conflict(0, 4) = 0; "
                + "conflict(0, 5) = -2; conflict(0, 9) = -2; conflict(0, -1) = -2; conflict(0, 10) = 2; "
                + "conflict(0, 11) = -9; conflict(0, 25) = -9; conflict(0, 26) = -2; conflict(0, 29) = -2; "
                + "conflict(0, 30) = 8; conflict(0, 31) = -9; conflict(0, 45) = -9; conflict(0, 46) = -2; "
                + "conflict(0, 49) = -2; conflict(0, 50) = 9; conflict(0, 65) = -9; conflict(0, 66) = -2; "
                + "conflict(0, 69) = -2; conflict(0, 70) = 1; conflict(0, 75) = 2; conflict(0, 76) = -9; "
                + "conflict(0, 120) = -9; conflict(0, 121) = -2; conflict(0, " + MIN + ") = -2; conflict(1, 0) = -1; "
                + "conflict(1, 99) = -1; conflict(-1, 0) = -1; conflict(-9, 0) = -1; conflict(0, " + MAX + ") = -2");
        // Ours has two lines, theirs one: theirs comes first, for 1, 0, 1, 1, ... is below 1, 0, 2, 1, ...
        Script.run("21 conflict, theirs first", "slot 0 := 1, 2, 3; commit(0, 0, 0) = 1; point(1, 1); "
                + "slot 0 := 1, 7, 8, 3; commit(0, 0, 0) = 2; slot 0 := 1, 8, 3; commit(1, 0, 0) = 3; "
                + "replay(1, 2) = 1; conflict(0, 4) = 1; conflict(0, 3) = 7; conflict(0, 70) = 1; "
                + "conflict(0, 71) = 0; conflict(0, 72) = 1; conflict(0, 73) = 1; conflict(0, 74) = 2; "
                + "conflict(0, 75) = 2; conflict(0, 76) = 1; conflict(0, 77) = -9; conflict(0, 1) = 2; "
                + "conflict(0, 2) = 1; conflict(0, 30) = 7; conflict(0, 31) = 8; conflict(0, 50) = 8");
        // As many lines on both sides: theirs gives 2, 0, 1, 2, 1, ..., ours would give 2, 0, 1, 2, 2, ...
        Script.run("21 conflict, names decide", "slot 0 := 1, 5, 6, 2; commit(0, 0, 0) = 1; point(1, 1); "
                + "slot 0 := 1, 7, 8, 2; commit(0, 0, 0) = 2; slot 0 := 1, 6, 9, 2; commit(1, 0, 0) = 3; "
                + "replay(1, 2) = 1; status(7) = 1; conflict(0, 4) = 1; conflict(0, 3) = 9; conflict(0, 70) = 2; "
                + "conflict(0, 71) = 0; conflict(0, 72) = 1; conflict(0, 73) = 2; conflict(0, 74) = 1; "
                + "conflict(0, 75) = 2; conflict(0, 76) = 2; conflict(0, 77) = 3; conflict(0, 78) = 4; "
                + "slot 1 := 9, 8, 6; settle(0, 1) = 1; resolution(0, 70) = 2; resolution(0, 71) = 4; "
                + "resolution(0, 72) = 1; merge(1, 3, 2, 11) = 9; merge(1, 3, 2, 12) = 8; merge(1, 3, 2, 13) = 6");
        Script.run("21 conflict, several", "slot 0 := 1, 2, 3; commit(0, 0, 0) = 1; point(1, 1); "
                + "slot 0 := 10, 2, 11, 12; commit(0, 0, 0) = 2; slot 0 := 20, 2, 21; commit(1, 0, 0) = 3; "
                + "replay(1, 2) = 1; status(7) = 2; conflict(0, 30) = 10; conflict(1, 30) = 11; conflict(1, 31) = 12; "
                + "conflict(1, 50) = 21; conflict(1, 10) = 3; conflict(2, 0) = -1; slot 1 := 5; settle(0, 1) = 1; "
                + "status(7) = 1; conflict(0, 30) = 11; conflict(1, 30) = -1");
        // Six numbers each, but 1, 0, 1, 1, 1, 2 in front and 0, 1, 0, 2, 1, 2 behind.
        Script.run("21 conflict, shapes of one length", "slot 0 := 1, 2; commit(0, 0, 0) = 1; point(1, 1); "
                + "slot 0 := 10, 2, 11; commit(0, 0, 0) = 2; slot 0 := 20, 2, 21, 22; commit(1, 0, 0) = 3; "
                + "replay(1, 2) = 1; status(7) = 2; conflict(0, 3) = 6; conflict(1, 3) = 6; slot 1 := 5; "
                + "settle(1, 1) = 1; status(7) = 1; conflict(0, 10) = 1; settle(0, 1) = 2; status(7) = 0");
        // A merge that is not the replay's leaves an open conflict behind; it is none of a replay.
        Script.run("21 conflict, of a replay alone", Rows.TWO_SIDES + "merge(1, 2, 3, 1) = 1; status(7) = 0; "
                + "merge(1, 2, 3, 1) = 1; conflict(0, 0) = -1; merge(1, 2, 3, 1) = 1; settle(0, 0) = -1; many(1) = 0");
    }

    private static void settle() {
        Script.run("22 settle", Rows.TWO_SIDES + "slot 1 := 9, 8, 9, 50, 2, 99; settle(0, 1) = -1; replay(1, 2) = 1; "
                + "settle(0, 1) = 1; status(0) = 1; many(0) = 4; resolution(0, 1) = 6; resolution(0, 70) = 2; "
                + "resolution(0, 71) = 1; resolution(0, 72) = 2; resolution(0, 73) = 150; resolution(0, 74) = 0; "
                + "resolution(0, 75) = 199; settle(0, 1) = -1; go() = 0; ofCommit(4, 2) = 8; ofCommit(4, 11) = 9; "
                + "ofCommit(4, 12) = 8; ofCommit(4, 14) = 50; ofCommit(4, 15) = 2; ofCommit(4, 16) = 99; "
                + "ofCommit(4, 17) = 3");
        Script.run("22 settle, by nothing", Rows.TWO_SIDES + "blank(1, 0, 0); replay(1, 2) = 1; settle(0, 1) = 1; "
                + "resolution(0, 1) = 0; resolution(0, 70) = -9; go() = 0; ofCommit(4, 2) = 2");
        Script.run("22 settle, wrong", Rows.TWO_SIDES + "replay(1, 2) = 1; settle(0, 5) = -1; settle(0, -1) = -1; "
                + "settle(1, 0) = -1; settle(-1, 0) = -1; settle(1, 4) = -1; fault() = 0; settle(0, 4) = -11; "
                + "fault() = 1; hold(4, 0); settle(0, 4) = -12; fault() = 2; blank(4, 1, 1); settle(0, 4) = -12; "
                + "blank(4, 0, 7); settle(0, 4) = -2; fault() = 0; slot 4 := 100; settle(0, 4) = -2; slot 4 := -1; "
                + "settle(0, 4) = -2; many(1) = 0");
        Script.run("22 settle, full", eightShapes() + "many(1) = 8; " + "slot 0 := 9, 9, 9, 9, 9, 9, 9, 9, 9, 9; "
                + "point(1, 0); commit(1, 0, 0) = 10; replay(1, 1) = 1; settle(0, 2) = -4; settle(0, 3) = -2; "
                + "settle(0, 4) = -11; settle(1, 2) = -1; forget(7) = 7; settle(0, 2) = 8");
    }

    /** Slot 2 settles; commit 1 is [1]; commits 2 to 9 are 1 to 8 lines that conflict with it. */
    private static String eightShapes() {
        StringBuilder text = new StringBuilder("slot 2 := 5; slot 3 := 0, 0, 0, 0, 0, 0, 0; slot 0 := 1; ");
        text.append("commit(0, 0, 0) = 1; ");
        for (int size = 1; size <= 8; size++) {
            text.append("slot 0 := 9").append(", 9".repeat(size - 1)).append("; point(1, 0); commit(1, 0, 0) = ");
            text.append(size + 1).append("; ");
        }
        for (int size = 1; size <= 8; size++) {
            text.append("point(1, ").append(size + 1).append("); replay(1, 1) = 1; settle(0, 2) = ");
            // A skip and no abort(), which would take the resolution back.
            text.append(size).append("; skip() = 0; ");
        }
        return text.toString();
    }

    private static void foretell() {
        Script.run("23 foretell", Rows.TWO_SIDES + "slot 0 := 1, 2, 3, 4; point(2, 1); commit(2, 0, 0) = 4; "
                + "slot 0 := 1, 6, 3, 4; commit(2, 0, 0) = 5; foretell(2, 2, 0) = 1; foretell(2, 2, 1) = 1; "
                + "foretell(2, 2, 2) = 0; foretell(2, 2, 3) = 5; foretell(2, 2, 4) = 1; foretell(2, 2, 5) = 4; "
                + "foretell(2, 2, 10) = 1; foretell(2, 2, 11) = 8; foretell(2, 2, 13) = 4; foretell(2, 2, 14) = -9; "
                + "foretell(2, 2, 25) = -9; trace() = "
                + Rows.trace(1, 2, 7, 1, 2, 7, 1, 2, 7, 1, 2, 7, 1, 2, 7, 1, 2, 7)
                + "; many(0) = 6; tip(2) = 5; status(0) = 0; status(2) = 0; ofCommit(2, 2) = 3");
        Script.run("23 foretell, over", Rows.TWO_SIDES + "slot 0 := 1, 2, 3, 4; point(2, 1); commit(2, 0, 0) = 4; "
                + "foretell(2, 2, 0) = 0; foretell(2, 2, 1) = 1; foretell(2, 2, 3) = -9; foretell(2, 2, 4) = 0; "
                + "foretell(2, 2, 5) = 4; foretell(2, 2, 13) = 4; foretell(0, 2, 1) = 0; foretell(0, 2, 5) = 3; "
                + "foretell(3, 2, 5) = 3; foretell(2, 4, 11) = 2; many(0) = 5");
        Script.run("23 foretell, the change is there already", "slot 0 := 1, 2; commit(0, 0, 0) = 1; point(1, 1); "
                + "slot 0 := 9, 1, 2; commit(0, 0, 0) = 2; slot 0 := 1, 9, 2; commit(1, 0, 0) = 3; "
                + "foretell(1, 2, 0) = 0; foretell(1, 2, 1) = 0; foretell(1, 2, 2) = 1; foretell(1, 2, 5) = 3; "
                + "foretell(1, 2, 10) = 9");
        Script.run("23 foretell, too long", longMerge() + "foretell(1, 2, 0) = 2; foretell(1, 2, 3) = 3; "
                + "foretell(1, 2, 4) = 0; foretell(1, 2, 5) = 10; foretell(1, 2, 10) = 31");
        Script.run("23 foretell, keeps the latest figures", "slot 0 := 1; commit(0, 0, 0) = 1; point(1, 0); "
                + "commit(1, 0, 0) = 2; replay(1, 1) = 0; status(3) = 1; foretell(0, 0, 1) = 1; status(2) = 0; "
                + "status(3) = 1");
        Script.run("23 foretell, wrong", Rows.TWO_SIDES + "foretell(4, 0, 0) = -1; foretell(-1, 0, 0) = -1; "
                + "foretell(0, 4, 0) = -1; foretell(0, -1, 9) = -1; foretell(0, 0, 6) = -2; foretell(0, 0, 9) = -2; "
                + "foretell(0, 0, 26) = -2; foretell(0, 0, -1) = -2; foretell(0, 0, " + MIN + ") = -2; "
                + "replay(1, 2) = 1; foretell(0, 0, 0) = -3; foretell(0, 0, 6) = -2; foretell(4, 0, 6) = -1; "
                + "conflict(0, 30) = 8");
        Script.run("23 foretell, full", "blank(0, 0, 0); " + "commit(0, 1, 0); ".repeat(12)
                + "commit(1, 1, 0) = 13; foretell(0, 13, 0) = -4; foretell(0, 13, 6) = -2; foretell(1, 12, 0) = 0; "
                + "foretell(0, 1, 1) = -4; foretell(0, 3, 1) = 9");
    }

    private static void blank() {
        Script.run("24 blank", "blank(0, 0, 24) = 1; number(0, 23) = 0; as(0, 0) = 1; blank(4, 1, 0) = 1; "
                + "as(4, 1) = 1; number(4, 0) = " + LOST + "; slot 0 := 5; blank(0, 0, 1) = 1; number(0, 0) = 0; "
                + "hold(1, 0) = 1; blank(1, 1, 2) = 1; number(1, 1) = 0; blank(5, 0, 1) = -1; blank(-1, 0, 1) = -1; "
                + "blank(5, 2, -1) = -1; blank(0, 2, 1) = -2; blank(0, -1, 1) = -2; blank(0, 0, 25) = -2; "
                + "blank(0, 2, -1) = -2; fault() = 0; blank(0, 0, -1) = -14; fault() = 4; blank(0, 1, " + MIN
                + ") = -14; blank(0, 0, " + MAX + ") = -2; fault() = 0; blank(5, 0, -1) = -1; fault() = 0; "
                + "number(0, 0) = 0; as(0, 0) = 1");
    }

    private static void showAndTrail() {
        Script.run("25 show, 26 trail", "slot 0 := 7, 8; commit(0, 0, 0) = 1; slot 0 := 9; commit(0, 1, 0) = 2; "
                + "show(3, 1) = 2; as(3, 0) = 1; number(3, 0) = 7; number(3, 1) = 8; number(3, 2) = " + LOST
                + "; write(3, 0, 1) = 1; ofCommit(1, 10) = 7; show(3, 0) = 0; number(3, 0) = " + LOST
                + "; show(5, 0) = -1; show(-1, 0) = -1; show(0, 3) = -1; show(0, -1) = -1; number(0, 0) = 9; "
                + "trail(2, 2) = 3; as(2, 1) = 1; number(2, 0) = 0; number(2, 1) = 1; number(2, 2) = 2; "
                + "number(2, 3) = " + LOST + "; trail(2, 0) = 1; number(2, 0) = 0; trail(5, 0) = -1; "
                + "trail(-1, 0) = -1; trail(0, 3) = -1; trail(0, -1) = -1; number(0, 0) = 9; point(1, 1); "
                + "commit(1, 0, 0) = 3; trail(2, 3) = 3; number(2, 2) = 3; number(2, 1) = 1; hold(1, 1) = 1; "
                + "show(1, 2) = 1; number(1, 0) = 9; hold(1, 1) = 1; trail(1, 2) = 3; number(1, 2) = 2");
    }

    private static void holdAndHeld() {
        Script.run("27 hold, 28 held", "slot 0 := 7; commit(0, 0, 0) = 1; hold(1, 1) = 1; held(1) = 1; "
                + "hold(0, 0) = 1; held(0) = 0; fault() = 0; number(0, 0) = " + LOST + "; hold(5, 0) = -1; "
                + "hold(-1, 0) = -1; hold(0, 2) = -1; hold(0, -1) = -1; held(0) = 0; held(5) = -1; fault() = 0; "
                + "held(-1) = -1; held(2) = -11; fault() = 1; blank(2, 0, 1) = 1; held(2) = -12; fault() = 2; "
                + "blank(2, 1, 1) = 1; held(2) = -12; held(1) = 1; fault() = 0; anew() = 2; held(1) = -9; fault() = 0");
        // A commit that has melted shows its new row; the object is the same.
        Script.run("27 hold, in a replay", Rows.TWO_SIDES + "slot 1 := 1, 2, 3, 6; point(2, 1); commit(2, 0, 1) = 4; "
                + "slot 1 := 1, 7, 3, 6; commit(2, 0, 1) = 5; replay(2, 2) = 1; hold(1, 6) = 1; skip() = 0; "
                + "held(1) = 6; tip(2) = 6");
    }

    private static void as() {
        Script.run("29 as", "slot 0 := 7; commit(0, 0, 0) = 1; commit(0, 1, 0) = 2; commit(0, 2, 0) = 3; "
                + "hold(1, 1); hold(2, 2); hold(3, 3); as(0, 0) = 1; as(0, 1) = -12; as(0, 2) = -12; as(0, 3) = -12; "
                + "as(0, 4) = -12; fault() = 2; as(1, 0) = -12; as(1, 1) = -12; as(1, 2) = 1; fault() = 0; "
                + "as(1, 3) = -12; as(1, 4) = -12; as(2, 2) = 1; as(2, 3) = 1; as(2, 4) = -12; as(3, 2) = 1; "
                + "as(3, 3) = 1; as(3, 4) = 1; as(3, 0) = -12; blank(0, 1, 1); as(0, 0) = -12; as(0, 1) = 1; "
                + "as(0, 2) = -12; as(4, 0) = -11; fault() = 1; as(4, 4) = -11; as(4, 5) = -2; fault() = 0; "
                + "as(0, -1) = -2; as(5, 9) = -1; as(-1, 0) = -1");
        Script.run("29 as, after another one", "hold(0, 0); blank(0, 0, 1); as(0, 2) = -12; as(0, 0) = 1; "
                + "hold(0, 0); as(0, 0) = -12; as(0, 2) = 1; trail(0, 0); as(0, 2) = -12; as(0, 1) = 1; "
                + "hold(0, 0); show(0, 0); as(0, 2) = -12; as(0, 0) = 1");
    }

    private static void lose() {
        Script.run("30 lose", "lose(0) = 0; blank(0, 0, 1); lose(0) = 1; lose(0) = 0; as(0, 0) = -11; "
                + "blank(0, 1, 0); lose(0) = 1; hold(0, 0); lose(0) = 1; held(0) = -11; many(3) = 0; lose(5) = -1; "
                + "lose(-1) = -1");
    }

    private static void writeAndNumber() {
        Script.run("31 write, 32 number", "blank(0, 0, 2); blank(1, 1, 2); hold(2, 0); write(0, 0, 127) = 1; "
                + "number(0, 0) = 127; write(0, 0, 128) = 1; number(0, 0) = -128; write(0, 1, 511) = 1; "
                + "number(0, 1) = -1; number(0, 0) = -128; write(1, 0, " + MIN + ") = 1; number(1, 0) = " + MIN
                + "; write(1, 1, " + MAX + ") = 1; number(1, 1) = " + MAX + "; write(1, 1, 300) = 1; "
                + "number(1, 1) = 300; fault() = 0; write(5, 0, 0) = -1; write(-1, 0, 0) = -1; fault() = 0; "
                + "write(2, 0, 0) = -12; fault() = 2; write(2, 9, 0) = -12; write(3, 0, 0) = -11; fault() = 1; "
                + "write(3, -1, 0) = -11; write(0, 2, 0) = -13; fault() = 3; write(0, -1, 0) = -13; write(0, " + MAX
                + ", 0) = -13; number(5, 0) = " + LOST + "; fault() = 0; number(-1, 0) = " + LOST
                + "; fault() = 0; number(2, 0) = " + LOST + "; fault() = 2; number(2, -1) = " + LOST
                + "; fault() = 2; number(3, 0) = " + LOST + "; fault() = 1; number(0, 2) = " + LOST
                + "; fault() = 3; number(0, -1) = " + LOST + "; fault() = 3; number(0, " + MIN + ") = " + LOST
                + "; number(0, 0) = -128; fault() = 0");
        // A slot whose int array gives way to a byte array, and the other way round.
        Script.run("31 write, another type", "blank(0, 1, 1); write(0, 0, 300); number(0, 0) = 300; blank(0, 0, 1); "
                + "write(0, 0, 300); number(0, 0) = 44; trail(0, 0); write(0, 0, 300); number(0, 0) = 300; "
                + "slot 1 := 3; commit(0, 0, 1) = 1; show(0, 1); write(0, 0, 300); number(0, 0) = 44");
    }

    private static void copy() {
        Script.run("33 copy", "slot 0 := 1, 2, 3, 4; slot 1 := 9, 9; copy(0, 1, 1, 0, 2) = 2; number(1, 0) = 2; "
                + "number(1, 1) = 3; copy(0, 0, 0, 1, 3) = 3; number(0, 0) = 1; number(0, 1) = 1; number(0, 2) = 2; "
                + "number(0, 3) = 3; copy(0, 1, 0, 0, 3) = 3; number(0, 0) = 1; number(0, 1) = 2; number(0, 2) = 3; "
                + "number(0, 3) = 3; copy(0, 4, 1, 2, 0) = 0; fault() = 0; copy(0, 5, 1, 0, 0) = -13; fault() = 3; "
                + "copy(0, 0, 1, 3, 0) = -13; copy(0, -1, 1, 0, 1) = -13; copy(0, 0, 1, -1, 1) = -13; "
                + "copy(0, 0, 1, 0, -1) = -13; copy(0, 0, 1, 0, 3) = -13; copy(1, 0, 0, 3, 2) = -13; "
                + "copy(0, 3, 0, 0, 2) = -13; copy(0, 1, 0, 0, " + MAX + ") = -13; "
                + "copy(0, " + MAX + ", 0, 0, 1) = -13; "
                + "copy(0, 0, 0, " + MAX + ", " + MAX + ") = -13; copy(0, " + MAX + ", 0, " + MAX + ", " + MAX
                + ") = -13; copy(0, 0, 0, 1, " + MIN + ") = -13; number(0, 3) = 3; fault() = 0");
        Script.run("33 copy, wrong", "slot 0 := 1, 2; blank(1, 1, 2); hold(2, 0); copy(5, 0, 0, 0, 1) = -1; "
                + "copy(0, 0, 5, 0, 1) = -1; copy(-1, 0, 3, 0, 1) = -1; copy(3, 0, -1, 0, 1) = -1; fault() = 0; "
                + "copy(0, 0, 3, 0, 1) = -11; fault() = 1; copy(3, 0, 0, 0, 1) = -11; copy(2, 0, 3, 0, 9) = -11; "
                + "copy(3, 0, 2, 0, 9) = -11; copy(0, 0, 1, 0, 1) = -12; fault() = 2; copy(1, 0, 0, 0, 9) = -12; "
                + "copy(2, 0, 0, 0, 1) = -12; copy(0, 0, 2, 0, 1) = -12; copy(2, 0, 2, 0, 1) = -12; "
                + "copy(1, 0, 2, 0, 1) = -12; blank(4, 1, 1); write(1, 1, 70000); copy(1, 1, 4, 0, 1) = 1; "
                + "number(4, 0) = 70000; number(0, 0) = 1");
    }

    private static void tellAndTrace() {
        Script.run("34 tell, 35 trace", "trace() = " + Rows.trace(1, 2, 7) + "; tell(0) = 0; trace() = "
                + Rows.trace(1, 2, 7, 11) + "; tell(1) = -1; tell(-1) = -1; trace() = " + Rows.trace(1, 2, 7, 11)
                + "; slot 0 := 7, 8; commit(0, 0, 0) = 1; trace() = " + Rows.trace(1, 2, 7, 11, 1, 2, 7)
                + "; commit(0, 1, 0) = 2; trace() = " + Rows.trace(1, 2, 7, 11, 1, 2, 7, 1, 2, 7, 3, 4)
                + "; tell(1) = 2; tell(2) = 102; trace() = "
                + Rows.trace(1, 2, 7, 11, 1, 2, 7, 1, 2, 7, 3, 4, 11, 12, 11)
                + "; commit(0, 2, 0) = 3; tell(3) = 202; trace() = "
                + Rows.trace(1, 2, 7, 11, 1, 2, 7, 1, 2, 7, 3, 4, 11, 12, 11, 1, 2, 7, 3, 4, 5, 6, 13, 11));
        Script.run("35 trace, replays", "slot 0 := 1; commit(0, 0, 0) = 1; slot 0 := 1, 2; commit(1, 0, 0) = 2; "
                + "point(2, 0); slot 0 := 1, 2; commit(2, 1, 0); slot 0 := 1, 2, 3; commit(2, 0, 0); point(3, 0); "
                + "commit(3, 2, 0) = 5; replay(2, 0) = 0; replay(3, 0) = 0; trace() = "
                + Rows.trace(1, 2, 7, 1, 2, 7, 1, 2, 7, 1, 2, 7, 3, 4, 1, 2, 7, 1, 2, 7, 3, 4, 5, 6,
                        1, 2, 3, 4, 1, 2, 1, 2, 3, 4, 5, 6)
                + "; ofCommit(8, 0) = 2; tell(8) = 203");
    }

    private static void fault() {
        // Calls that are not named leave the fault as it is, even when they answer an error.
        Script.run("36 fault", "fault() = 0; as(0, 0) = -11; fault() = 1; fault() = 1; tip(9) = -1; lose(0) = 0; "
                + "hold(9, 0) = -1; show(9, 9) = -1; trail(9, 9) = -1; many(9) = -2; replay(9, 0) = -1; go() = -3; "
                + "status(99) = -2; conflict(0, 0) = -1; ofCommit(9, 9) = -1; foretell(0, 0, 99) = -2; fault() = 1; "
                + "blank(0, 0, 1) = 1; fault() = 0; held(0) = -12; fault() = 2; blank(9, 0, 1) = -1; fault() = 0; "
                + "write(0, 9, 0) = -13; fault() = 3; number(0, 0) = 0; fault() = 0; blank(0, 0, -1) = -14; "
                + "fault() = 4; settle(0, 0) = -1; fault() = 0; as(0, 2) = -12; fault() = 2; commit(9, 0, 0) = -1; "
                + "fault() = 0; as(0, 2) = -12; copy(0, 0, 0, 0, 1) = 1; fault() = 0; as(0, 2) = -12; held(9) = -1; "
                + "fault() = 0; as(0, 2) = -12; as(9, 0) = -1; fault() = 0; as(0, 2) = -12; write(9, 0, 0) = -1; "
                + "fault() = 0; as(0, 2) = -12; number(9, 0) = " + LOST + "; fault() = 0; as(0, 2) = -12; "
                + "copy(9, 0, 0, 0, 0) = -1; fault() = 0; as(0, 2) = -12; commit(0, 0, 0) = 1; fault() = 0");
    }

    private static void many() {
        Script.run("37 many", "slot 0 := 1; commit(0, 0, 0) = 1; commit(0, 0, 0) = 2; commit(1, 0, 0) = 3; "
                + "point(2, 1); many(0) = 4; many(2) = 4; point(1, 0) = 3; many(0) = 4; many(2) = 3; point(0, 0); "
                + "many(2) = 2; point(2, 0); many(2) = 1; many(3) = 1; hold(4, 0); blank(2, 1, 0); many(3) = 3; "
                + "lose(0); many(3) = 2; many(1) = 0; many(4) = -2; many(-1) = -2");
        Script.run("37 many, resolutions", Rows.TWO_SIDES + "replay(1, 2) = 1; blank(1, 0, 0); settle(0, 1) = 1; "
                + "many(1) = 1; many(2) = 4; skip() = 0; many(2) = 3; many(1) = 1");
    }
}
