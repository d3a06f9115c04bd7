/** The four examples of the document, each call with the result that is given behind it. */
public final class ExamplesTest {
    private ExamplesTest() {
    }

    public static void main(String[] args) {
        Script.run("example 1", "blank(0, 0, 2) = 1; write(0, 0, 7) = 1; write(0, 1, 9) = 1; commit(0, 0, 0) = 1; "
                + "write(0, 1, 5) = 1; commit(0, 0, 0) = 2; point(1, 1) = 0; write(0, 0, 8) = 1; "
                + "commit(1, 1, 0) = 3; fork(2, 3) = 1; piece(2, 0, 10) = 9; piece(2, 0, 30) = 5; "
                + "foretell(0, 3, 0) = 1; replay(0, 3) = 1; ofCommit(4, 5) = -1; tip(0) = 2");
        Script.run("example 2", "blank(0, 0, 1) = 1; write(0, 0, 1) = 1; commit(0, 0, 0) = 1; write(0, 0, 2) = 1; "
                + "commit(1, 0, 0) = 2; replay(1, 1) = 1; status(1) = 2; conflict(0, 3) = 5; "
                + "conflict(0, 4) = 0; conflict(0, 71) = 1; settle(0, 0) = 1; resolution(0, 70) = 1; "
                + "go() = 0; status(5) = 1; many(1) = 1; ofCommit(3, 10) = 2");
        Script.run("example 3", "blank(0, 0, 1) = 1; commit(0, 0, 0) = 1; point(1, 0) = 0; commit(1, 0, 0) = 2; "
                + "alike(1, 2) = 1; replay(1, 1) = 0; status(3) = 1; tip(1) = 1; hold(4, 2) = 1; "
                + "as(4, 3) = -12; fault() = 2; tell(1) = 1; trace() = 749573893; anew() = 3; "
                + "held(4) = -9; swaps(0) = -3");
        Script.run("example 4", "commit(0, 0, 0) = -11; blank(0, 1, 1) = 1; commit(0, 0, 0) = -12; "
                + "blank(0, 0, -1) = -14; blank(0, 0, 17) = 1; commit(0, 0, 0) = -2; go() = -3; "
                + "number(4, 0) = -9223372036854775808; copy(0, 17, 0, 0, 0) = 0; copy(0, 18, 0, 0, 0) = -13; "
                + "merge(0, 0, 0, 2) = 0; mark(0) = 0; replay(0, 0) = 0; abort() = -3; status(8) = -9; "
                + "settle(0, 0) = -1");
        Script.end();
    }
}
