/**
 * The boundary cases of MERGING and of promises 13 to 15, a test for each sentence of the document
 * that names one. The title quotes the sentence.
 */
public final class MergeBoundariesTest {
    private MergeBoundariesTest() {
    }

    public static void main(String[] args) {
        gaps();
        clearGaps();
        shapes();
        firstSide();
        resolutions();
        settling();
        merge();
        mergeErrors();
        resolution();
        forget();
        Script.end();
    }

    /** Commits 1, 2 and 3 with these rows: 2 and 3 have the parent 1, on branches 0 and 1. */
    private static String three(String base, String ours, String theirs) {
        return "slot 0 := " + base + "; commit(0, 0, 0) = 1; point(1, 1) = 0; slot 0 := " + ours
                + "; commit(0, 0, 0) = 2; slot 0 := " + theirs + "; commit(1, 0, 0) = 3; ";
    }

    private static void gaps() {
        // 2 is in the matching with theirs alone, so that one gap goes from 1 to 3.
        Script.run("MERGING: stable if it occurs in the matching of base and ours and also in that of theirs",
                three("1, 2, 3", "1, 3, 4", "1, 5, 2, 3") + "merge(1, 2, 3, 0) = 1; merge(1, 3, 2, 0) = 1; "
                + "replay(1, 2) = 1; conflict(0, 0) = 1; conflict(0, 1) = 0; conflict(0, 2) = 2; "
                + "conflict(0, 10) = 2; conflict(0, 50) = 5; conflict(0, 51) = 2");
        Script.run("MERGING: the parts before the first stable index, between each and the next one, after the last",
                three("1, 2", "5, 1, 2", "1, 6, 2, 7") + "merge(1, 2, 3, 0) = 0; merge(1, 2, 3, 2) = 5; "
                + "merge(1, 2, 3, 10) = 5; merge(1, 2, 3, 11) = 1; merge(1, 2, 3, 12) = 6; merge(1, 2, 3, 13) = 2; "
                + "merge(1, 2, 3, 14) = 7");
        Script.run("MERGING: a conflict in each of these parts", three("1, 2", "5, 1, 15, 2, 25", "6, 1, 16, 2, 26")
                + "merge(1, 2, 3, 0) = 3; replay(1, 2) = 1; conflict(0, 30) = 5; conflict(1, 30) = 15; "
                + "conflict(2, 30) = 25; conflict(2, 50) = 26; conflict(3, 0) = -1");
        Script.run("MERGING: no stable index: one gap", three("1, 2", "3, 4, 5", "6") + "merge(1, 2, 3, 0) = 1; "
                + "replay(1, 2) = 1; conflict(0, 0) = 2; conflict(0, 1) = 3; conflict(0, 2) = 1");
        Script.run("MERGING: an empty base", "blank(0, 0, 0); commit(0, 0, 0) = 1; point(1, 1); slot 0 := 1; "
                + "commit(0, 0, 0) = 2; slot 0 := 2; commit(1, 0, 0) = 3; merge(1, 2, 3, 0) = 1; "
                + "merge(1, 1, 3, 10) = 2; merge(1, 2, 1, 10) = 1; merge(1, 2, 2, 2) = 1; merge(1, 1, 1, 2) = 0");
        Script.run("MERGING: empty sides", "slot 0 := 1, 2; commit(0, 0, 0) = 1; merge(1, 0, 0, 0) = 0; "
                + "merge(1, 0, 0, 2) = 0; merge(1, 1, 0, 2) = 0; merge(1, 0, 1, 2) = 0; slot 0 := 1, 3; "
                + "commit(0, 0, 0) = 2; merge(1, 2, 0, 0) = 1; merge(1, 0, 2, 0) = 1");
        Script.run("MERGING: all indices of 16 stable", Rows.count(0, 1, 16) + "commit(0, 0, 0) = 1; "
                + "merge(1, 1, 1, 0) = 0; merge(1, 1, 1, 2) = 16; merge(1, 1, 1, 10) = 1; merge(1, 1, 1, 25) = 16");
        // Ours changes the last line, theirs the first one.
        Script.run("MERGING: gaps at both ends of 16 lines", Rows.count(0, 1, 16) + "commit(0, 0, 0) = 1; "
                + "point(1, 1); write(0, 15, 50); commit(0, 0, 0) = 2; write(0, 15, 16); write(0, 0, 51); "
                + "commit(1, 0, 0) = 3; merge(1, 2, 3, 0) = 0; merge(1, 2, 3, 2) = 16; merge(1, 2, 3, 10) = 51; "
                + "merge(1, 2, 3, 25) = 50");
    }

    private static void clearGaps() {
        Script.run("MERGING: the part of theirs, if the part of ours equals that of base",
                three("1, 2, 3", "1, 2, 3", "1, 9, 3") + "merge(1, 2, 3, 11) = 9; merge(1, 2, 3, 0) = 0");
        Script.run("MERGING: otherwise the part of ours, if the part of theirs equals that of base",
                three("1, 2, 3", "1, 8, 3", "1, 2, 3") + "merge(1, 2, 3, 11) = 8; merge(1, 2, 3, 0) = 0");
        Script.run("MERGING: or that of ours", three("1, 2, 3", "1, 9, 3", "1, 9, 3")
                + "merge(1, 2, 3, 11) = 9; merge(1, 2, 3, 2) = 3; merge(1, 2, 3, 0) = 0");
        Script.run("MERGING: both sides put in the same lines", three("1", "1, 5, 6", "1, 5, 6")
                + "merge(1, 2, 3, 0) = 0; merge(1, 2, 3, 2) = 3");
        Script.run("MERGING: both sides take out the same lines", three("1, 5, 6", "1", "1")
                + "merge(1, 2, 3, 0) = 0; merge(1, 2, 3, 2) = 1");
        Script.run("MERGING: otherwise it is a conflict", three("1, 2, 3", "1, 8, 3", "1, 9, 3")
                + "merge(1, 2, 3, 0) = 1; merge(1, 2, 3, 1) = 1");
        Script.run("MERGING: a conflict where one side takes out and the other one changes",
                three("1, 2, 3", "1, 3", "1, 9, 3") + "merge(1, 2, 3, 0) = 1; merge(1, 3, 2, 0) = 1");
        // The parts have equal beginnings but not equal lengths.
        Script.run("MERGING: a conflict where one side has more lines", three("1, 2", "1, 2, 5", "1, 2, 5, 6")
                + "merge(1, 2, 3, 0) = 1; merge(1, 3, 2, 0) = 1");
    }

    private static void shapes() {
        Script.run("MERGING: the number of lines of the part of base, then these lines, then the same for the sides",
                three("1, 2, 3", "1, 8, 3", "1, 9, 3") + "replay(1, 2) = 1; conflict(0, 3) = 6; conflict(0, 70) = 1; "
                + "conflict(0, 71) = 0; conflict(0, 72) = 1; conflict(0, 73) = 1; conflict(0, 74) = 1; "
                + "conflict(0, 75) = 2; conflict(0, 76) = -9");
        Script.run("MERGING: the shape where base has no lines", three("1", "1, 8", "1, 9") + "replay(1, 2) = 1; "
                + "conflict(0, 3) = 5; conflict(0, 70) = 0; conflict(0, 71) = 1; conflict(0, 72) = 0; "
                + "conflict(0, 73) = 1; conflict(0, 74) = 1; conflict(0, 75) = -9");
        Script.run("MERGING: the shape where a side has no lines", three("1, 2", "1", "1, 9") + "replay(1, 2) = 1; "
                + "conflict(0, 3) = 5; conflict(0, 4) = 0; conflict(0, 70) = 1; conflict(0, 71) = 0; "
                + "conflict(0, 72) = 0; conflict(0, 73) = 1; conflict(0, 74) = 1");
        // One line has one name wherever it occurs.
        Script.run("MERGING: the names are 0, 1, 2, ... in the order in which different lines first occur",
                three("5, 5, 2", "6, 7, 2", "7, 6, 6, 2") + "replay(1, 2) = 1; conflict(0, 3) = 10; "
                + "conflict(0, 70) = 2; conflict(0, 71) = 0; conflict(0, 72) = 0; conflict(0, 73) = 2; "
                + "conflict(0, 74) = 1; conflict(0, 75) = 2; conflict(0, 76) = 3; conflict(0, 77) = 2; "
                + "conflict(0, 78) = 1; conflict(0, 79) = 1");
        Script.run("MERGING: the longest shape, 51 numbers with the names 0 to 47", Rows.count(0, 0, 15)
                + "commit(0, 0, 0) = 1; point(1, 1); " + Rows.count(0, 16, 31) + "commit(0, 0, 0) = 2; "
                + Rows.count(0, 84, 99) + "commit(1, 0, 0) = 3; replay(1, 2) = 1; conflict(0, 3) = 51; "
                + "conflict(0, 70) = 16; conflict(0, 86) = 15; conflict(0, 87) = 16; conflict(0, 103) = 31; "
                + "conflict(0, 104) = 16; conflict(0, 120) = 47; conflict(0, 121) = -2");
    }

    private static void firstSide() {
        Script.run("MERGING: whichever gives the lexicographically smaller sequence, by the number of lines",
                three("1, 2", "1, 8, 7", "1, 9") + "replay(1, 2) = 1; conflict(0, 4) = 1; conflict(0, 70) = 1; "
                + "conflict(0, 72) = 1; conflict(0, 74) = 2");
        Script.run("MERGING: whichever gives the lexicographically smaller sequence, by the number of lines, ours",
                three("1, 2", "1, 9", "1, 8, 7") + "replay(1, 2) = 1; conflict(0, 4) = 0; conflict(0, 70) = 1; "
                + "conflict(0, 72) = 1; conflict(0, 74) = 2");
        // Base is 5, 6: theirs begins with 6, which has the name 1 already, ours with a new one.
        Script.run("MERGING: whichever gives the lexicographically smaller sequence, by a name",
                three("5, 6, 2", "7, 8, 2", "6, 9, 2") + "replay(1, 2) = 1; conflict(0, 4) = 1; "
                + "conflict(0, 74) = 1; conflict(0, 75) = 2; conflict(0, 77) = 3; conflict(0, 78) = 4");
        // 0, 2, 0, 0, 2, 1, 2 with theirs first, 0, 2, 0, 1, ... with ours first.
        Script.run("MERGING: whichever gives the lexicographically smaller sequence, by the last line of a side",
                three("2", "7, 8, 2", "9, 9, 2") + "replay(1, 2) = 1; conflict(0, 4) = 1; conflict(0, 71) = 2; "
                + "conflict(0, 72) = 0; conflict(0, 73) = 0; conflict(0, 74) = 2; conflict(0, 75) = 1; "
                + "conflict(0, 76) = 2");
        Script.run("MERGING: ours if both give the same", three("2", "8, 2", "9, 2") + "replay(1, 2) = 1; "
                + "conflict(0, 4) = 0; slot 1 := 8; settle(0, 1) = 1; resolution(0, 70) = 0; "
                + "merge(1, 2, 3, 10) = 8; merge(1, 3, 2, 10) = 9");
    }

    private static void resolutions() {
        Script.run("MERGING: a row of 0 to 6 numbers, 0", three("2", "8, 2", "9, 2") + "replay(1, 2) = 1; "
                + "blank(1, 0, 0); settle(0, 1) = 1; resolution(0, 1) = 0; resolution(0, 70) = -9; "
                + "merge(1, 2, 3, 2) = 1; merge(1, 2, 3, 10) = 2");
        Script.run("MERGING: a row of 0 to 6 numbers, 6", three("2", "8, 2", "9, 2") + "replay(1, 2) = 1; "
                + "slot 1 := 9, 8, 0, 99, 9, 1; settle(0, 1) = 1; resolution(0, 1) = 6; merge(1, 2, 3, 2) = 7; "
                + "merge(1, 2, 3, 10) = 9; merge(1, 2, 3, 11) = 8; merge(1, 2, 3, 12) = 0; merge(1, 2, 3, 13) = 99; "
                + "merge(1, 2, 3, 14) = 9; merge(1, 2, 3, 15) = 1; merge(1, 2, 3, 16) = 2");
        Script.run("MERGING: There are at most 8 resolutions", Rows.eightResolutions() + "many(1) = 8; "
                + "slot 0 := 9, 9, 9, 9, 9, 9, 9, 9, 9; point(1, 0); commit(1, 0, 0) = 10; replay(1, 1) = 1; "
                + "settle(0, 2) = -4; many(1) = 8; resolution(7, 1) = 1; resolution(8, 1) = -1");
        // Two conflicts of one shape: with the resolution of one neither is open.
        Script.run("MERGING: no two with the same shape", three("1, 2, 3, 4", "1, 8, 3, 18", "1, 9, 3, 19")
                + "replay(1, 2) = 1; status(7) = 2; slot 1 := 8; settle(1, 1) = 1; status(7) = 0; "
                + "settle(0, 1) = -1; settle(1, 1) = -1; many(1) = 1");
        Script.run("MERGING: numbered in the order in which they were made", three("1, 2, 3", "11, 2, 12, 13",
                "21, 2, 22") + "replay(1, 2) = 1; status(7) = 2; slot 1 := 51; slot 2 := 52; settle(1, 1) = 1; "
                + "settle(0, 2) = 2; resolution(0, 70) = 151; resolution(0, 0) = 7; resolution(1, 70) = 152; "
                + "resolution(1, 0) = 6");
        Script.run("MERGING: A conflict is open if there is no resolution with its shape",
                three("1, 2, 3", "11, 2, 12, 13", "21, 2, 22") + "replay(1, 2) = 1; merge(1, 2, 3, 0) = 2; "
                + "merge(1, 2, 3, 1) = 2; slot 1 := 51; settle(0, 1) = 1; merge(1, 2, 3, 0) = 2; "
                + "merge(1, 2, 3, 1) = 1; forget(0) = 0; merge(1, 2, 3, 1) = 2");
        // Shapes 1, 0, 1, 1, 1, 2 and 1, 0, 1, 1, 2, 2, 3: the one is not the beginning of the other.
        Script.run("MERGING: with its shape: of the same length and with the same numbers",
                three("1, 2, 3", "11, 2, 12", "21, 2, 22, 22") + "replay(1, 2) = 1; status(7) = 2; slot 1 := 51; "
                + "settle(0, 1) = 1; status(7) = 1; conflict(0, 2) = 2; settle(0, 1) = 2; status(7) = 0; "
                + "skip() = 0; slot 0 := 21, 2, 22, 23; point(1, 1); commit(1, 0, 0) = 4; replay(1, 2) = 1; "
                + "status(7) = 1; conflict(0, 3) = 7");
        // Shapes 2, 0, 1, 1, 0, 1, 2 and 3, 0, 1, 1, 0, 1, 2 differ in the number of lines of base alone.
        Script.run("MERGING: with its shape: the first number, too", three("1, 2", "1", "3") + "replay(1, 2) = 1; "
                + "conflict(0, 3) = 7; conflict(0, 70) = 2; slot 1 := 5; settle(0, 1) = 1; merge(1, 2, 3, 1) = 0; "
                + "skip() = 0; slot 0 := 1, 2, 2; commit(2, 0, 0) = 4; merge(4, 0, 3, 0) = 1; merge(4, 0, 3, 1) = 1; "
                + "commit(2, 0, 0) = 5; forget(0) = 0; merge(1, 2, 3, 1) = 1");
    }

    private static void settling() {
        Script.run("MERGING: each name is replaced by the line that has it in this conflict",
                three("1, 2, 3, 4", "1, 8, 3, 18", "1, 9, 3, 19") + "replay(1, 2) = 1; slot 1 := 9, 8, 2; "
                + "settle(0, 1) = 1; merge(1, 2, 3, 2) = 8; merge(1, 2, 3, 11) = 9; merge(1, 2, 3, 12) = 8; "
                + "merge(1, 2, 3, 13) = 2; merge(1, 2, 3, 15) = 19; merge(1, 2, 3, 16) = 18; merge(1, 2, 3, 17) = 4");
        Script.run("MERGING: and each other number by the number minus 100, 100 and 199",
                three("1, 2, 3, 4", "1, 8, 3, 18", "1, 9, 3, 19") + "replay(1, 2) = 1; slot 1 := 0, 99; "
                + "settle(0, 1) = 1; resolution(0, 70) = 100; resolution(0, 71) = 199; merge(1, 2, 3, 11) = 0; "
                + "merge(1, 2, 3, 12) = 99; merge(1, 2, 3, 14) = 0; merge(1, 2, 3, 15) = 99");
        Script.run("MERGING: each line that occurs in the conflict is replaced by its name, name 0 and line 0",
                three("0, 3", "8, 3", "9, 3") + "replay(1, 2) = 1; slot 1 := 0, 1, 9, 2; settle(0, 1) = 1; "
                + "resolution(0, 70) = 0; resolution(0, 71) = 101; resolution(0, 72) = 2; resolution(0, 73) = 102");
        // 3 is in the rows, but in no part of the conflict.
        Script.run("MERGING: and each other line by 100 plus the line", three("0, 3", "8, 3", "9, 3")
                + "replay(1, 2) = 1; slot 1 := 3; settle(0, 1) = 1; resolution(0, 70) = 103");
        Script.run("MERGING: the name 47 of the longest shape", Rows.count(0, 0, 15) + "commit(0, 0, 0) = 1; "
                + "point(1, 1); " + Rows.count(0, 16, 31) + "commit(0, 0, 0) = 2; " + Rows.count(0, 84, 99)
                + "commit(1, 0, 0) = 3; replay(1, 2) = 1; slot 1 := 99, 47, 0, 15, 16, 31; settle(0, 1) = 1; "
                + "resolution(0, 70) = 47; resolution(0, 71) = 147; resolution(0, 72) = 0; resolution(0, 73) = 15; "
                + "resolution(0, 74) = 16; resolution(0, 75) = 31; go() = 0; ofCommit(4, 2) = 6; ofCommit(4, 10) = 99; "
                + "ofCommit(4, 11) = 47; ofCommit(4, 15) = 31");
    }

    private static void merge() {
        Script.run("13: 0: the number of conflicts; 1: how many of them are open", three("1, 2, 3",
                "11, 2, 12, 13", "21, 2, 22") + "merge(1, 2, 3, 0) = 2; merge(1, 2, 3, 1) = 2; merge(0, 0, 0, 0) = 0; "
                + "merge(0, 0, 0, 1) = 0; replay(1, 2) = 1; slot 1 := 5; settle(0, 1) = 1; merge(1, 2, 3, 0) = 2; "
                + "merge(1, 2, 3, 1) = 1");
        Script.run("13: 2: the number of lines of the result (it may be more than 16)", "slot 0 := 1; "
                + "commit(0, 0, 0) = 1; point(1, 1); " + Rows.count(0, 50, 65) + "write(0, 15, 1); "
                + "commit(0, 0, 0) = 2; " + Rows.count(0, 70, 85) + "write(0, 0, 1); commit(1, 0, 0) = 3; "
                + "merge(1, 2, 3, 0) = 0; merge(1, 2, 3, 2) = 31; merge(1, 2, 3, 10) = 50; merge(1, 2, 3, 25) = 1; "
                + "merge(1, 2, 3, 26) = -2");
        // Eight conflicts that become six lines each, before each of eight stable lines.
        Script.run("13: 2: with the rows of resolutions", Rows.count(0, 1, 8) + "commit(0, 0, 0) = 1; point(1, 1); "
                + "slot 0 := 11,1,12,2,13,3,14,4,15,5,16,6,17,7,18,8; commit(0, 0, 0) = 2; "
                + "slot 0 := 21,1,22,2,23,3,24,4,25,5,26,6,27,7,28,8; commit(1, 0, 0) = 3; merge(1, 2, 3, 0) = 8; "
                + "merge(1, 2, 3, 1) = 8; replay(1, 2) = 1; slot 1 := 11, 21, 11, 21, 11, 90; settle(0, 1) = 1; "
                + "merge(1, 2, 3, 0) = 8; merge(1, 2, 3, 1) = 0; merge(1, 2, 3, 2) = 56; merge(1, 2, 3, 15) = 90; "
                + "merge(1, 2, 3, 16) = 1; merge(1, 2, 3, 18) = 22; merge(1, 2, 3, 24) = 13; merge(1, 2, 3, 25) = 23");
        // Ten conflicts around nine stable lines, as many as three rows of 16 lines can have: four where both
        // sides put in a line, three where theirs changes a line that ours takes out, three the other way round.
        Script.run("13: 0: ten conflicts, and a result of 69 lines", three("1,2,3,4,44,5,45,6,46,7,47,8,48,9,49",
                "50,1,51,2,52,3,53,4,5,6,7,57,8,58,9,59", "60,1,61,2,62,3,63,4,64,5,65,6,66,7,8,9")
                + "merge(1, 2, 3, 0) = 10; merge(1, 2, 3, 1) = 10; replay(1, 2) = 1; status(7) = 10; "
                + "conflict(9, 10) = 49; conflict(9, 30) = 59; conflict(9, 2) = 0; conflict(9, 4) = 1; "
                + "conflict(4, 4) = 0; conflict(10, 0) = -1; slot 1 := 50, 60, 90, 91, 92, 93; settle(0, 1) = 1; "
                + "merge(1, 2, 3, 1) = 6; settle(5, 1) = 2; merge(1, 2, 3, 0) = 10; merge(1, 2, 3, 1) = 0; "
                + "merge(1, 2, 3, 2) = 69; merge(1, 2, 3, 16) = 1; merge(1, 2, 3, 17) = 51; go() = 2; status(5) = 0");
        Script.run("13: 10 + i: line i of the result (i is 0 to 15)", Rows.count(0, 50, 65)
                + "commit(0, 0, 0) = 1; merge(0, 0, 1, 10) = 50; merge(0, 0, 1, 25) = 65");
        Script.run("13: for 2 and 10 + i, NONE if a conflict is open", three("1, 2", "1, 8", "1, 9")
                + "merge(1, 2, 3, 2) = -9; merge(1, 2, 3, 10) = -9; merge(1, 2, 3, 11) = -9; merge(1, 2, 3, 25) = -9; "
                + "merge(1, 2, 3, 0) = 1; merge(1, 2, 3, 1) = 1; replay(1, 2) = 1; slot 1 := 5; settle(0, 1) = 1; "
                + "merge(1, 2, 3, 2) = 2; merge(1, 2, 3, 10) = 1; merge(1, 2, 3, 11) = 5");
        Script.run("13: and for 10 + i, if there is no such line", "slot 0 := 5; commit(0, 0, 0) = 1; "
                + "merge(0, 0, 1, 10) = 5; merge(0, 0, 1, 11) = -9; merge(0, 0, 1, 25) = -9; merge(0, 0, 0, 10) = -9");
        Script.run("13: Nothing is changed", Rows.STOPPED + "trace(); merge(1, 2, 3, 0) = 1; merge(3, 1, 2, 1) = 1; "
                + "many(0) = 4; many(1) = 0; status(0) = 1; status(5) = 0; status(7) = 1; tip(1) = 3; trace() = "
                + Rows.trace(1, 2, 7, 1, 2, 7, 1, 2, 7, 1, 2, 7));
    }

    private static void mergeErrors() {
        Script.run("13: UNKNOWN if there is no such commit", "merge(-1, 0, 0, 0) = -1; merge(1, 0, 0, 0) = -1; "
                + "merge(0, -1, 0, 0) = -1; merge(0, 1, 0, 0) = -1; merge(0, 0, -1, 0) = -1; merge(0, 0, 1, 0) = -1; "
                + "merge(MIN, 0, 0, 0) = -1; merge(0, MAX, 0, 0) = -1; merge(0, 0, MIN, 0) = -1; "
                + "merge(1, 0, 0, 3) = -1; merge(0, 1, 0, -1) = -1; merge(0, 0, 1, 26) = -1");
        Script.run("13: OUTSIDE if what is none of these", "merge(0, 0, 0, -1) = -2; merge(0, 0, 0, 3) = -2; "
                + "merge(0, 0, 0, 9) = -2; merge(0, 0, 0, 26) = -2; merge(0, 0, 0, MIN) = -2; "
                + "merge(0, 0, 0, MAX) = -2");
    }

    private static void resolution() {
        String settled = Rows.STOPPED + "slot 1 := 9, 50; settle(0, 1) = 1; ";
        Script.run("14: 10 + i: number i of the shape (i is 0 to 50); NONE if there is no such number", settled
                + "resolution(0, 0) = 6; resolution(0, 10) = 1; resolution(0, 15) = 2; resolution(0, 16) = -9; "
                + "resolution(0, 60) = -9; resolution(0, 61) = -2");
        Script.run("14: 10 + i, i is 50", Rows.count(0, 0, 15) + "commit(0, 0, 0) = 1; point(1, 1); "
                + Rows.count(0, 16, 31) + "commit(0, 0, 0) = 2; " + Rows.count(0, 84, 99) + "commit(1, 0, 0) = 3; "
                + "replay(1, 2) = 1; blank(1, 0, 0); settle(0, 1) = 1; resolution(0, 0) = 51; "
                + "resolution(0, 1) = 0; resolution(0, 10) = 16; resolution(0, 60) = 47; resolution(0, 61) = -2");
        Script.run("14: 70 + i: number i of the row (i is 0 to 5); NONE if there is no such number", settled
                + "resolution(0, 1) = 2; resolution(0, 70) = 2; resolution(0, 71) = 150; resolution(0, 72) = -9; "
                + "resolution(0, 75) = -9; resolution(0, 76) = -2");
        Script.run("14: 70 + i, i is 5", Rows.STOPPED + "slot 1 := 0, 0, 0, 0, 0, 77; settle(0, 1) = 1; "
                + "resolution(0, 1) = 6; resolution(0, 75) = 177; resolution(0, 76) = -2");
        Script.run("14: UNKNOWN if there is no such resolution", "resolution(0, 0) = -1; " + settled
                + "resolution(-1, 0) = -1; resolution(1, 0) = -1; resolution(MIN, 0) = -1; resolution(MAX, 0) = -1; "
                + "resolution(1, 2) = -1; resolution(-1, -1) = -1; forget(0) = 0; resolution(0, 0) = -1");
        Script.run("14: OUTSIDE if what is none of these", settled + "resolution(0, -1) = -2; "
                + "resolution(0, 2) = -2; resolution(0, 9) = -2; resolution(0, 61) = -2; resolution(0, 69) = -2; "
                + "resolution(0, 76) = -2; resolution(0, MIN) = -2; resolution(0, MAX) = -2");
    }

    private static void forget() {
        Script.run("15: Those behind it get numbers that are 1 less, of 8 the first one", Rows.eightResolutions()
                + "resolution(0, 0) = 5; resolution(7, 0) = 12; forget(0) = 7; resolution(0, 0) = 6; "
                + "resolution(6, 0) = 12; resolution(7, 0) = -1; many(1) = 7");
        Script.run("15: Those behind it get numbers that are 1 less, of 8 the last one", Rows.eightResolutions()
                + "forget(7) = 7; resolution(0, 0) = 5; resolution(6, 0) = 11; resolution(7, 0) = -1; many(1) = 7");
        Script.run("15: Those behind it get numbers that are 1 less, of 8 one between", Rows.eightResolutions()
                + "forget(3) = 7; resolution(2, 0) = 7; resolution(3, 0) = 9; resolution(6, 0) = 12; "
                + "forget(6) = 6; forget(0) = 5; forget(0) = 4; forget(0) = 3; forget(0) = 2; forget(0) = 1; "
                + "resolution(0, 0) = 11; forget(0) = 0; forget(0) = -1; many(1) = 0");
        Script.run("15: UNKNOWN if there is no such resolution", "forget(0) = -1; " + Rows.STOPPED + "slot 1 := 4; "
                + "settle(0, 1) = 1; forget(-1) = -1; forget(1) = -1; forget(MIN) = -1; forget(MAX) = -1; "
                + "many(1) = 1; forget(0) = 0; forget(0) = -1");
        Script.run("15: a conflict whose resolution is removed is open again", Rows.STOPPED + "slot 1 := 4; "
                + "settle(0, 1) = 1; status(7) = 0; forget(0) = 0; status(7) = 1; go() = 1; settle(0, 1) = 1; "
                + "go() = 0");
    }
}
