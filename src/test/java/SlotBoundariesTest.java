/**
 * The boundary cases of SLOTS and of promises 24 to 37, a test for each sentence of the document
 * that names one. The title quotes the sentence.
 */
public final class SlotBoundariesTest {
    private SlotBoundariesTest() {
    }

    public static void main(String[] args) {
        slots();
        blank();
        show();
        trail();
        hold();
        held();
        as();
        lose();
        write();
        number();
        copy();
        copyErrors();
        tell();
        trace();
        fault();
        faultOfOtherCalls();
        many();
        Script.end();
    }

    private static void slots() {
        Script.run("SLOTS: There are five slots, 0 to 4", "blank(0, 0, 1) = 1; blank(4, 0, 1) = 1; "
                + "blank(5, 0, 1) = -1; "
                + "blank(-1, 0, 1) = -1; many(3) = 2");
        Script.run("SLOTS: A slot holds nothing (at first)", "held(0) = -11; held(1) = -11; held(2) = -11; "
                + "held(3) = -11; held(4) = -11; many(3) = 0");
        Script.run("SLOTS: a byte array or an int array of 0 to 24 elements", "blank(0, 0, 0) = 1; blank(1, 1, 0) = 1; "
                + "blank(2, 0, 24) = 1; blank(3, 1, 24) = 1; number(0, 0) = LOST; fault() = 3; number(1, 0) = LOST; "
                + "fault() = 3; number(2, 23) = 0; number(2, 24) = LOST; number(3, 23) = 0; number(3, 24) = LOST; "
                + "blank(4, 0, 25) = -2; blank(4, 1, 25) = -2; as(4, 0) = -11");
        Script.run("SLOTS: Values that are stored in a byte array are cast to byte", """
                blank(0, 0, 8); write(0, 0, 127); write(0, 1, 128); write(0, 2, 255); write(0, 3, 256)
                write(0, 4, -128); write(0, 5, -129); write(0, 6, MAX); write(0, 7, MIN)
                number(0, 0) = 127; number(0, 1) = -128; number(0, 2) = -1; number(0, 3) = 0
                number(0, 4) = -128; number(0, 5) = 127; number(0, 6) = -1; number(0, 7) = 0
                """);
        Script.run("SLOTS: Values in an int array are not", "blank(0, 1, 2); write(0, 0, MAX); write(0, 1, MIN); "
                + "number(0, 0) = MAX; number(0, 1) = MIN");
        Script.run("SLOTS: A commit is gone if it was made by a replay that was aborted", Rows.ONE_MADE
                + "replay(1, 2) = 1; hold(3, 5); held(3) = 5; hold(4, 4); abort() = 1; held(3) = -9; held(4) = 4; "
                // A new commit with the number of the one that is gone is another one.
                + "commit(2, 0, 0) = 5; held(3) = -9; hold(3, 5); held(3) = 5");
        Script.run("SLOTS: A commit is not gone if the replay that made it is over", "slot 0 := 1; "
                + "commit(0, 0, 0) = 1; replay(0, 0) = 0; hold(1, 2); held(1) = 2; replay(0, 0) = 0; held(1) = 2");
        Script.run("SLOTS: or existed before a call of anew()", "slot 0 := 1; commit(0, 0, 0) = 1; hold(0, 0); "
                + "hold(1, 1); anew() = 2; held(0) = -9; held(1) = -9; slot 2 := 1; commit(0, 0, 2) = 1; "
                + "held(1) = -9; hold(1, 1); hold(0, 0); held(1) = 1; held(0) = 0");
        Script.run("SLOTS: a commit that is gone keeps its type", "slot 0 := 1; commit(0, 2, 0) = 1; hold(1, 1); "
                + "hold(2, 0); anew() = 2; as(1, 2) = 1; as(1, 4) = 1; as(2, 2) = 1; as(2, 3) = -12; as(1, 0) = -12; "
                + "write(1, 0, 0) = -12; many(3) = 3; lose(1) = 1");
    }

    private static void blank() {
        Script.run("24: whose elements are 0", "slot 0 := 7, 8; blank(0, 0, 2) = 1; number(0, 0) = 0; "
                + "number(0, 1) = 0; blank(0, 1, 24) = 1; number(0, 0) = 0; number(0, 23) = 0");
        Script.run("24: sort 0: byte; 1: int", "blank(0, 0, 1) = 1; as(0, 0) = 1; as(0, 1) = -12; blank(0, 1, 1) = 1; "
                + "as(0, 1) = 1; as(0, 0) = -12");
        Script.run("24: n at most 24, and 0", "blank(0, 0, 24) = 1; blank(0, 0, 0) = 1; as(0, 0) = 1; fault() = 0");
        Script.run("24: in the place of a commit", "hold(0, 0); blank(0, 0, 1) = 1; as(0, 2) = -12; held(0) = -12");
        Script.run("24: UNKNOWN if there is no such slot", "blank(-1, 0, 1) = -1; blank(5, 0, 1) = -1; "
                + "blank(MIN, 0, 1) = -1; blank(MAX, 0, 1) = -1; fault() = 0; many(3) = 0");
        Script.run("24: OUTSIDE if sort is out of range", "blank(0, -1, 1) = -2; blank(0, 2, 1) = -2; "
                + "blank(0, MIN, 1) = -2; blank(0, MAX, 1) = -2; fault() = 0; many(3) = 0");
        Script.run("24: OUTSIDE if n is above 24", "blank(0, 0, 25) = -2; blank(0, 1, 25) = -2; blank(0, 0, MAX) = -2; "
                + "fault() = 0; many(3) = 0");
        Script.run("24: -14 if n is negative", "blank(0, 0, -1) = -14; fault() = 4; blank(0, 1, -1) = -14; "
                + "blank(0, 0, MIN) = -14; fault() = 4; many(3) = 0");
        Script.run("24: UNKNOWN before OUTSIDE before -14", "blank(5, 2, -1) = -1; blank(5, 0, 25) = -1; "
                + "blank(5, 0, -1) = -1; fault() = 0; blank(0, 2, -1) = -2; blank(0, -1, -1) = -2; fault() = 0; "
                + "blank(0, 2, 25) = -2");
        Script.run("24: what is refused leaves the slot", "slot 0 := 7; blank(0, 0, 25) = -2; blank(0, 0, -1) = -14; "
                + "blank(0, 2, 1) = -2; number(0, 0) = 7");
    }

    private static void show() {
        Script.run("25: Returns the number of lines, 0 and 16", "show(1, 0) = 0; as(1, 0) = 1; number(1, 0) = LOST; "
                + Rows.count(0, 84, 99) + "commit(0, 0, 0) = 1; show(1, 1) = 16; number(1, 0) = 84; "
                + "number(1, 15) = 99; number(1, 16) = LOST");
        Script.run("25: a new byte array, not the row of the commit", "slot 0 := 7; commit(0, 0, 0) = 1; "
                + "show(1, 1) = 1; "
                + "show(2, 1) = 1; write(1, 0, 9) = 1; ofCommit(1, 10) = 7; number(2, 0) = 7; as(1, 0) = 1; "
                + "write(2, 0, 200) = 1; number(2, 0) = -56");
        Script.run("25: UNKNOWN if there is no such slot", "show(-1, 0) = -1; show(5, 0) = -1; show(MIN, 0) = -1; "
                + "show(MAX, 0) = -1");
        Script.run("25: UNKNOWN if there is no such commit", "slot 0 := 7; show(0, -1) = -1; show(0, 1) = -1; "
                + "show(0, MIN) = -1; show(0, MAX) = -1; number(0, 0) = 7");
        Script.run("25: a melted row", "slot 0 := 1; commit(0, 0, 0) = 1; slot 0 := 1, 2; commit(0, 2, 0) = 2; "
                + "replay(0, 0) = 0; show(1, 3) = 2; number(1, 1) = 2");
    }

    private static void trail() {
        Script.run("26: beginning with commit 0, 1 and 24 elements", Rows.empties(0, 23) + "trail(1, 0) = 1; "
                + "number(1, 0) = 0; number(1, 1) = LOST; trail(1, 23) = 24; number(1, 0) = 0; number(1, 23) = 23; "
                + "number(1, 24) = LOST");
        Script.run("26: a new int array", "trail(0, 0) = 1; as(0, 1) = 1; write(0, 0, 70000) = 1; "
                + "number(0, 0) = 70000; trail(1, 0) = 1; number(1, 0) = 0; ofCommit(0, 4) = 1");
        Script.run("26: the commits on the path alone", "blank(0, 0, 0); commit(0, 0, 0) = 1; commit(1, 0, 0) = 2; "
                + "commit(0, 0, 0) = 3; trail(1, 3) = 3; number(1, 1) = 1; number(1, 2) = 3");
        Script.run("26: UNKNOWN if there is no such slot", "trail(-1, 0) = -1; trail(5, 0) = -1; trail(MIN, 0) = -1; "
                + "trail(MAX, 0) = -1");
        Script.run("26: UNKNOWN if there is no such commit", "slot 0 := 7; trail(0, -1) = -1; trail(0, 1) = -1; "
                + "trail(0, MIN) = -1; trail(0, MAX) = -1; as(0, 0) = 1");
    }

    private static void hold() {
        Script.run("27: Puts a commit into a slot, the first and the last one", Rows.empties(0, 23)
                + "hold(0, 0) = 1; hold(4, 23) = 1; held(0) = 0; held(4) = 23");
        Script.run("27: in the place of an array", "slot 0 := 7; hold(0, 0) = 1; as(0, 0) = -12; number(0, 0) = LOST; "
                + "fault() = 2");
        Script.run("27: UNKNOWN if there is no such slot", "hold(-1, 0) = -1; hold(5, 0) = -1; hold(MIN, 0) = -1; "
                + "hold(MAX, 0) = -1; many(3) = 0");
        Script.run("27: UNKNOWN if there is no such commit", "slot 0 := 7; hold(0, -1) = -1; hold(0, 1) = -1; "
                + "hold(0, MIN) = -1; hold(0, MAX) = -1; number(0, 0) = 7");
    }

    private static void held() {
        Script.run("28: NONE if the commit is gone", "hold(0, 0); held(0) = 0; anew(); held(0) = -9; fault() = 0");
        Script.run("28: UNKNOWN if there is no such slot", "held(-1) = -1; held(5) = -1; held(MIN) = -1; "
                + "held(MAX) = -1; fault() = 0");
        Script.run("28: -12 if the slot holds an array", "blank(0, 0, 0); held(0) = -12; fault() = 2; blank(0, 1, 24); "
                + "held(0) = -12; fault() = 2");
        Script.run("28: -11 if it holds nothing", "held(0) = -11; fault() = 1; hold(0, 0); lose(0); held(0) = -11; "
                + "fault() = 1");
    }

    private static void as() {
        String all = "slot 0 := 7; commit(0, 0, 0) = 1; commit(0, 1, 0) = 2; commit(0, 2, 0) = 3; blank(1, 1, 0); "
                + "hold(2, 1); hold(3, 2); hold(4, 3); ";
        Script.run("29: 0: byte array", all + "as(0, 0) = 1; as(1, 0) = -12; as(2, 0) = -12; as(3, 0) = -12; "
                + "as(4, 0) = -12");
        Script.run("29: 1: int array", all + "as(0, 1) = -12; as(1, 1) = 1; as(2, 1) = -12; as(3, 1) = -12; "
                + "as(4, 1) = -12");
        Script.run("29: 2: commit", all + "as(0, 2) = -12; as(1, 2) = -12; as(2, 2) = 1; as(3, 2) = 1; as(4, 2) = 1");
        Script.run("29: 3: kept commit", all + "as(0, 3) = -12; as(1, 3) = -12; as(2, 3) = -12; as(3, 3) = 1; "
                + "as(4, 3) = 1");
        Script.run("29: 4: fix", all + "as(0, 4) = -12; as(1, 4) = -12; as(2, 4) = -12; as(3, 4) = -12; as(4, 4) = 1");
        Script.run("29: UNKNOWN if there is no such slot", "as(-1, 0) = -1; as(5, 0) = -1; as(MIN, 0) = -1; "
                + "as(MAX, 0) = -1; as(5, 5) = -1; fault() = 0");
        Script.run("29: OUTSIDE if sort is out of range", all + "as(0, -1) = -2; as(0, 5) = -2; as(0, MIN) = -2; "
                + "as(0, MAX) = -2; as(4, 5) = -2; fault() = 0");
        Script.run("29: OUTSIDE before -11", "as(0, 5) = -2; as(0, -1) = -2; fault() = 0");
        Script.run("29: -12 if the cast fails", "hold(0, 0); as(0, 3) = -12; fault() = 2; as(0, 2) = 1; fault() = 0");
        Script.run("29: -11 if the slot holds nothing", "as(0, 0) = -11; fault() = 1; as(0, 1) = -11; as(0, 2) = -11; "
                + "as(0, 3) = -11; as(4, 4) = -11; fault() = 1");
        Script.run("29: commits that a replay has made", "slot 0 := 1; commit(0, 1, 0) = 1; slot 0 := 2; "
                + "commit(1, 2, 0) = 2; replay(0, 0) = 0; replay(1, 0) = 0; hold(1, 3); hold(2, 4); as(1, 3) = 1; "
                + "as(1, 4) = -12; as(2, 4) = 1");
    }

    private static void lose() {
        Script.run("30: Returns 1 if it held something", "blank(0, 0, 0); blank(1, 1, 0); hold(4, 0); lose(0) = 1; "
                + "lose(1) = 1; lose(4) = 1; many(3) = 0");
        Script.run("30: 0 if not", "lose(0) = 0; lose(4) = 0; hold(0, 0); lose(0) = 1; lose(0) = 0");
        Script.run("30: 1 for a commit that is gone", "hold(0, 0); anew(); lose(0) = 1; lose(0) = 0");
        Script.run("30: it holds nothing then", "slot 0 := 7; lose(0) = 1; as(0, 0) = -11; held(0) = -11; "
                + "number(0, 0) = LOST; fault() = 1; write(0, 0, 1) = -11; commit(0, 0, 0) = -11");
        Script.run("30: UNKNOWN if there is no such slot", "lose(-1) = -1; lose(5) = -1; lose(MIN) = -1; "
                + "lose(MAX) = -1");
    }

    private static void write() {
        Script.run("31: the first and the last element", "blank(0, 0, 24); write(0, 0, 1) = 1; write(0, 23, 2) = 1; "
                + "number(0, 0) = 1; number(0, 1) = 0; number(0, 22) = 0; number(0, 23) = 2; fault() = 0");
        Script.run("31: UNKNOWN if there is no such slot", "write(-1, 0, 0) = -1; write(5, 0, 0) = -1; "
                + "write(MIN, 0, 0) = -1; write(MAX, 0, 0) = -1; write(5, -1, 0) = -1; fault() = 0");
        Script.run("31: -12 if the slot holds a commit", "hold(0, 0); write(0, 0, 0) = -12; fault() = 2; "
                + "write(0, -1, 0) = -12; write(0, 24, 0) = -12; fault() = 2");
        Script.run("31: -11 if it holds nothing", "write(0, 0, 0) = -11; fault() = 1; write(0, -1, 0) = -11; "
                + "write(0, 24, 0) = -11; fault() = 1");
        Script.run("31: -13 if i is out of bounds", "slot 0 := 7, 8; write(0, -1, 0) = -13; fault() = 3; "
                + "write(0, 2, 0) = -13; fault() = 3; write(0, MIN, 0) = -13; write(0, MAX, 0) = -13; "
                + "number(0, 0) = 7; number(0, 1) = 8; blank(0, 1, 0); write(0, 0, 0) = -13; blank(0, 0, 24); "
                + "write(0, 24, 0) = -13; fault() = 3");
    }

    private static void number() {
        Script.run("32: the first and the last element", "slot 0 := 7, 8, 9; number(0, 0) = 7; number(0, 2) = 9; "
                + "fault() = 0");
        Script.run("32: there is no such slot (fault 0)", "as(0, 0) = -11; number(-1, 0) = LOST; fault() = 0; "
                + "as(0, 0) = -11; number(5, 0) = LOST; fault() = 0; number(MIN, -1) = LOST; fault() = 0; "
                + "number(MAX, 99) = LOST; fault() = 0");
        Script.run("32: the slot holds a commit (fault 2)", "hold(0, 0); number(0, 0) = LOST; fault() = 2; "
                + "number(0, -1) = LOST; fault() = 2; number(0, 24) = LOST; fault() = 2");
        Script.run("32: it holds nothing (fault 1)", "number(0, 0) = LOST; fault() = 1; number(0, -1) = LOST; "
                + "fault() = 1; number(0, 24) = LOST; fault() = 1");
        Script.run("32: i is out of bounds (fault 3)", "slot 0 := 7, 8; number(0, -1) = LOST; fault() = 3; "
                + "number(0, 2) = LOST; fault() = 3; number(0, MIN) = LOST; fault() = 3; number(0, MAX) = LOST; "
                + "fault() = 3; number(0, 1) = 8; fault() = 0; blank(0, 1, 0); number(0, 0) = LOST; fault() = 3");
        Script.run("32: the least int is not LOST", "blank(0, 1, 1); write(0, 0, MIN); number(0, 0) = MIN; "
                + "fault() = 0");
    }

    private static void copy() {
        Script.run("33: whole arrays of 24 elements", "blank(0, 1, 24); blank(1, 1, 24); write(0, 0, 5); "
                + "write(0, 23, 6); copy(0, 0, 1, 0, 24) = 24; number(1, 0) = 5; number(1, 23) = 6; fault() = 0; "
                + "copy(0, 0, 1, 0, 25) = -13; copy(0, 1, 1, 0, 24) = -13; copy(0, 0, 1, 1, 24) = -13");
        Script.run("33: the last element alone", "slot 0 := 7, 8; slot 1 := 1, 2, 3; copy(0, 1, 1, 2, 1) = 1; "
                + "number(1, 0) = 1; number(1, 1) = 2; number(1, 2) = 8");
        Script.run("33: within one array, as if first copied to a temporary array, forward",
                "slot 0 := 1, 2, 3, 4; copy(0, 0, 0, 1, 3) = 3; number(0, 0) = 1; number(0, 1) = 1; number(0, 2) = 2; "
                + "number(0, 3) = 3");
        Script.run("33: within one array, as if first copied to a temporary array, backward",
                "slot 0 := 1, 2, 3, 4; copy(0, 1, 0, 0, 3) = 3; number(0, 0) = 2; number(0, 1) = 3; number(0, 2) = 4; "
                + "number(0, 3) = 4");
        Script.run("33: onto itself", "slot 0 := 1, 2; copy(0, 0, 0, 0, 2) = 2; number(0, 0) = 1; number(0, 1) = 2");
        Script.run("33: Returns n, 0 at the ends", "slot 0 := 1, 2; blank(1, 0, 0); copy(0, 2, 1, 0, 0) = 0; "
                + "copy(1, 0, 0, 2, 0) = 0; copy(1, 0, 1, 0, 0) = 0; fault() = 0; number(0, 1) = 2");
    }

    private static void copyErrors() {
        String all = "slot 0 := 1, 2; blank(1, 1, 2); hold(2, 0); slot 4 := 9; ";
        Script.run("33: UNKNOWN if there is no such slot", all + "copy(-1, 0, 0, 0, 0) = -1; "
                + "copy(5, 0, 0, 0, 0) = -1; copy(0, 0, -1, 0, 0) = -1; copy(0, 0, 5, 0, 0) = -1; "
                + "copy(MIN, 0, 0, 0, 0) = -1; copy(0, 0, MAX, 0, 0) = -1; fault() = 0");
        Script.run("33: UNKNOWN before -11, -12 and -13", all + "copy(3, 0, 5, 0, 0) = -1; copy(5, 0, 3, 0, 0) = -1; "
                + "copy(2, 0, 5, 0, 0) = -1; copy(-1, 0, 2, 0, 0) = -1; copy(0, -1, 5, 0, 0) = -1; fault() = 0");
        Script.run("33: -11 if one of the slots holds nothing", all + "copy(3, 0, 0, 0, 0) = -11; fault() = 1; "
                + "copy(0, 0, 3, 0, 0) = -11; fault() = 1; copy(3, 0, 3, 0, 0) = -11; fault() = 1");
        Script.run("33: -11 before -12 and -13", all + "copy(3, 0, 2, 0, 0) = -11; copy(2, 0, 3, 0, 0) = -11; "
                + "fault() = 1; copy(3, -1, 0, 0, 0) = -11; copy(0, 0, 3, 0, -1) = -11; fault() = 1");
        Script.run("33: -12 if one holds a commit", all + "copy(2, 0, 0, 0, 0) = -12; fault() = 2; "
                + "copy(0, 0, 2, 0, 0) = -12; fault() = 2; copy(2, 0, 2, 0, 0) = -12; copy(1, 0, 2, 0, 0) = -12; "
                + "copy(2, 0, 1, 0, 0) = -12; fault() = 2");
        Script.run("33: -12 if the element types differ", all + "copy(0, 0, 1, 0, 0) = -12; fault() = 2; "
                + "copy(1, 0, 0, 0, 0) = -12; fault() = 2; copy(0, 0, 1, 0, 1) = -12; number(1, 0) = 0");
        Script.run("33: -12 before -13", all + "copy(0, -1, 1, 0, 0) = -12; copy(1, 0, 0, 9, 1) = -12; "
                + "copy(2, 0, 0, 0, -1) = -12; fault() = 2");
        Script.run("33: -13 if i is negative", all + "copy(0, -1, 4, 0, 1) = -13; fault() = 3; "
                + "copy(0, MIN, 4, 0, 1) = -13; copy(0, -1, 4, 0, 0) = -13; number(4, 0) = 9");
        Script.run("33: -13 if j is negative", all + "copy(0, 0, 4, -1, 1) = -13; fault() = 3; "
                + "copy(0, 0, 4, MIN, 1) = -13; copy(0, 0, 4, -1, 0) = -13; number(4, 0) = 9");
        Script.run("33: -13 if n is negative", all + "copy(0, 0, 4, 0, -1) = -13; fault() = 3; "
                + "copy(0, 2, 4, 1, -1) = -13; copy(0, 0, 4, 0, MIN) = -13; copy(0, 1, 0, 1, -1) = -13");
        Script.run("33: -13 if i + n is greater than the length of its array", all + "copy(4, 0, 0, 0, 1) = 1; "
                + "copy(4, 0, 0, 0, 2) = -13; fault() = 3; copy(4, 1, 0, 0, 1) = -13; copy(0, 1, 0, 0, 2) = -13; "
                + "number(0, 0) = 9; number(0, 1) = 2");
        Script.run("33: -13 if j + n is greater than the length of its array", all + "copy(0, 0, 4, 0, 1) = 1; "
                + "copy(0, 0, 4, 0, 2) = -13; fault() = 3; copy(0, 0, 4, 1, 1) = -13; copy(0, 0, 0, 1, 2) = -13; "
                + "number(4, 0) = 1; number(0, 1) = 2");
        Script.run("33: (this is checked for n = 0, too", all + "copy(0, 2, 4, 1, 0) = 0; copy(0, 3, 4, 1, 0) = -13; "
                + "fault() = 3; copy(0, 2, 4, 2, 0) = -13; fault() = 3; copy(0, MAX, 4, 0, 0) = -13; "
                + "copy(0, 0, 4, MAX, 0) = -13");
        Script.run("33: and without overflow)", all + "copy(0, MAX, 4, 0, 1) = -13; fault() = 3; "
                + "copy(0, 0, 4, MAX, 1) = -13; copy(0, 1, 4, 0, MAX) = -13; copy(0, 0, 4, 1, MAX) = -13; "
                + "copy(0, MAX, 4, MAX, MAX) = -13; copy(0, MAX, 4, 0, MAX) = -13; copy(0, 0, 4, 0, MAX) = -13; "
                + "copy(0, MIN, 4, MIN, MIN) = -13; copy(0, 2, 0, 2, MAX) = -13; number(0, 0) = 1; number(4, 0) = 9");
    }

    private static void tell() {
        Script.run("34: plain leaves 11 and returns the number of lines, 0 and 16", "tell(0) = 0; "
                + Rows.count(0, 0, 15) + "commit(0, 0, 0) = 1; tell(1) = 16; trace() = "
                + Rows.trace(1, 2, 7, 11, 1, 2, 7, 11));
        Script.run("34: kept leaves 12 and returns that of plain (which is called) + 100", Rows.count(0, 0, 15)
                + "commit(0, 1, 0) = 1; tell(1) = 116; trace() = " + Rows.trace(1, 2, 7, 1, 2, 7, 3, 4, 12, 11));
        Script.run("34: fix leaves 13 and returns that of plain (which is called, not that of kept) + 200",
                "blank(0, 0, 0); commit(0, 2, 0) = 1; tell(1) = 200; trace() = "
                + Rows.trace(1, 2, 7, 1, 2, 7, 3, 4, 5, 6, 13, 11));
        Script.run("34: UNKNOWN if there is no such commit", "tell(-1) = -1; tell(1) = -1; tell(MIN) = -1; "
                + "tell(MAX) = -1; trace() = 1030");
    }

    private static void trace() {
        Script.run("35: at first, and with overflow", "trace() = 1030; tell(0) = 0; trace() = 31941; tell(0) = 0; "
                + "trace() = 990182; tell(0) = 0; trace() = 30695653; tell(0) = 0; trace() = 951565254; "
                + "tell(0) = 0; trace() = -566248187");
    }

    private static void fault() {
        Script.run("36: or there was no such call", "fault() = 0; tip(9) = -1; go() = -3; fault() = 0");
        Script.run("36: of commit()", "commit(0, 0, 0) = -11; fault() = 1; blank(0, 0, 0); commit(0, 0, 0) = 1; "
                + "fault() = 0; hold(0, 0); commit(0, 0, 0) = -12; fault() = 2; commit(0, 3, 0) = -2; fault() = 0");
        Script.run("36: of settle()", Rows.STOPPED + "settle(0, 4) = -11; fault() = 1; settle(1, 4) = -1; fault() = 0; "
                + "hold(4, 0); settle(0, 4) = -12; fault() = 2; slot 3 := 4; held(4) = 0; settle(0, 4) = -12; "
                + "settle(0, 3) = 1; fault() = 0");
        Script.run("36: of blank()", "blank(0, 0, -1) = -14; fault() = 4; blank(0, 0, 1) = 1; fault() = 0; "
                + "blank(0, 0, -1) = -14; blank(5, 0, -1) = -1; fault() = 0");
        Script.run("36: of held()", "held(0) = -11; fault() = 1; blank(0, 0, 0); held(0) = -12; fault() = 2; "
                + "hold(1, 0); held(1) = 0; fault() = 0; held(0) = -12; held(5) = -1; fault() = 0; held(0) = -12; "
                + "anew(); held(1) = -9; fault() = 0");
        Script.run("36: of as()", "as(0, 0) = -11; fault() = 1; hold(0, 0); as(0, 0) = -12; fault() = 2; as(0, 2) = 1; "
                + "fault() = 0; as(0, 0) = -12; as(0, 5) = -2; fault() = 0");
        Script.run("36: of write()", "write(0, 0, 0) = -11; fault() = 1; hold(0, 0); write(0, 0, 0) = -12; "
                + "fault() = 2; "
                + "blank(1, 0, 1); write(1, 1, 0) = -13; fault() = 3; write(1, 0, 0) = 1; fault() = 0; "
                + "write(1, 1, 0) = -13; write(5, 0, 0) = -1; fault() = 0");
        Script.run("36: of number()", "number(0, 0) = LOST; fault() = 1; hold(0, 0); number(0, 0) = LOST; fault() = 2; "
                + "blank(1, 0, 1); number(1, 1) = LOST; fault() = 3; number(1, 0) = 0; fault() = 0; "
                + "number(1, 1) = LOST; number(5, 0) = LOST; fault() = 0");
        Script.run("36: of copy()", "blank(1, 0, 1); copy(0, 0, 1, 0, 0) = -11; fault() = 1; hold(0, 0); "
                + "copy(0, 0, 1, 0, 0) = -12; fault() = 2; copy(1, 0, 1, 0, 2) = -13; fault() = 3; "
                + "copy(1, 0, 1, 0, 1) = 1; fault() = 0; copy(1, 0, 1, 0, 2) = -13; copy(5, 0, 1, 0, 0) = -1; "
                + "fault() = 0");
        Script.run("36: 0 if that call had none (also if it returned another error)", "as(0, 0) = -11; "
                + "commit(0, 3, 0) = -2; fault() = 0; as(0, 0) = -11; blank(0, 0, 25) = -2; fault() = 0; "
                + "as(0, 0) = -11; as(0, 5) = -2; fault() = 0; as(0, 0) = -11; settle(0, 0) = -1; fault() = 0");
    }

    private static void faultOfOtherCalls() {
        for (String call : new String[] {"ofCommit(0, 0) = 0", "ofCommit(9, 0) = -1", "piece(0, 0, 0) = -1",
            "mark(0) = 0", "mark(9) = -1", "alike(0, 0) = 1", "fork(0, 0) = 0", "ahead(0, 0) = 0", "swaps(0) = -3",
            "tip(0) = 0", "tip(9) = -1", "point(0, 0) = 0", "point(9, 0) = -1", "anew() = 1", "merge(0, 0, 0, 0) = 0",
            "merge(0, 0, 0, 9) = -2", "resolution(0, 0) = -1", "forget(0) = -1", "replay(0, 0) = 0",
            "replay(9, 0) = -1", "go() = -3", "skip() = -3", "abort() = -3", "status(0) = 0", "status(9) = -2",
            "conflict(0, 0) = -1", "foretell(0, 0, 0) = 0", "foretell(0, 0, 9) = -2", "show(1, 0) = 0",
            "show(9, 0) = -1", "trail(1, 0) = 1", "trail(9, 0) = -1", "hold(1, 0) = 1", "hold(9, 0) = -1",
            "lose(1) = 0", "lose(9) = -1", "tell(0) = 0", "tell(9) = -1", "trace() = 1030", "fault() = 4",
            "many(0) = 1", "many(9) = -2"}) {
            Script.run("36: the latest call of commit(), ... or copy(), not of " + call,
                    "blank(0, 0, -1) = -14; " + call + "; fault() = 4");
        }
    }

    private static void many() {
        Script.run("37: 0: commits, 1 and 24", "many(0) = 1; " + Rows.empties(0, 23) + "many(0) = 24");
        Script.run("37: 1: resolutions, 0 and 8", "many(1) = 0; " + Rows.eightResolutions() + "many(1) = 8");
        Script.run("37: 2: commits that are on the path of some branch, 1 and 24", "many(2) = 1; "
                + Rows.empties(0, 23) + "many(2) = 24; point(0, 0) = 23; many(2) = 1; many(0) = 24; point(3, 22) = 0; "
                + "many(2) = 23");
        Script.run("37: 2: each one once", "blank(0, 0, 0); commit(0, 0, 0) = 1; point(1, 1); point(2, 1); "
                + "commit(1, 0, 0) = 2; commit(2, 0, 0) = 3; commit(3, 0, 0) = 4; many(2) = 5; point(1, 0); "
                + "many(2) = 4");
        Script.run("37: 2: what a replay that is under way has made is on the path of none", Rows.ONE_MADE
                + "replay(1, 2) = 1; many(0) = 6; many(2) = 5; skip() = 0; many(2) = 4");
        Script.run("37: 3: slots that hold something, 0 and 5", "many(3) = 0; blank(0, 0, 0); blank(1, 1, 0); "
                + "hold(2, 0); show(3, 0); trail(4, 0); many(3) = 5; lose(0); lose(4); many(3) = 3");
        Script.run("37: OUTSIDE if what is out of range", "many(-1) = -2; many(4) = -2; many(MIN) = -2; "
                + "many(MAX) = -2");
    }
}
