import java.util.ArrayList;
import java.util.List;
import java.util.Set;

/**
 * "A call that returns an error changes nothing but the result of fault()": every error of every
 * method, in a state in which much could be changed. All that can be asked of the state is asked
 * with the refused call and without it, each question on a new object, so that none of them
 * changes what the next one answers.
 */
public final class RefusalsTest {
    /** The calls of which fault() tells. */
    private static final Set<String> TOLD =
            Set.of("commit", "settle", "blank", "held", "as", "write", "number", "copy");

    /** A replay that is over, a resolution, slots of all sorts; fault() is 4; no replay is under way. */
    private static final String IDLE = Rows.TWO_SIDES + "replay(1, 2) = 1; slot 1 := 4; settle(0, 1) = 1; go() = 0; "
            + "blank(1, 1, 3); write(1, 2, 700); hold(2, 3); slot 4 := 1, 100; blank(3, 0, -1) = -14; ";

    /** The same with a replay that has made a commit, and has stopped. */
    private static final String UNDER_WAY = Rows.ONE_MADE + "slot 1 := 1, 9, 3, 4, 4; commit(1, 1, 1) = 5; "
            + "replay(1, 2) = 1; hold(2, 6); blank(1, 1, 3); write(1, 2, 700); slot 4 := 1, 100; "
            + "blank(3, 0, -1) = -14; ";

    private static final String FULL_OF_COMMITS = Rows.empties(0, 23) + "blank(3, 0, -1) = -14; ";

    private static final String FULL_OF_RESOLUTIONS = Rows.eightResolutions() + "slot 0 := 9, 9, 9, 9, 9, 9, 9, 9, 9; "
            + "point(1, 0); commit(1, 0, 0) = 10; replay(1, 1) = 1; blank(3, 0, -1) = -14; ";

    private RefusalsTest() {
    }

    public static void main(String[] args) {
        refuse("no replay is under way", IDLE, """
                commit(4, 0, 0) = -1; commit(0, 0, 5) = -1; commit(0, 3, 0) = -2; commit(0, 0, 1) = -12
                commit(0, 0, 2) = -12; commit(0, 0, 3) = -11; commit(0, 0, 4) = -2
                ofCommit(5, 0) = -1; ofCommit(0, 6) = -2; piece(5, 0, 0) = -1; piece(1, 1, 0) = -1
                piece(1, 0, 2) = -2; mark(5) = -1; alike(0, 5) = -1; fork(0, 5) = -1; ahead(0, 5) = -1
                swaps(5) = -1; swaps(0) = -3; swaps(1) = -3; tip(4) = -1; point(4, 0) = -1; point(0, 5) = -1
                merge(0, 0, 5, 0) = -1; merge(0, 0, 0, 3) = -2; resolution(1, 0) = -1; resolution(0, 2) = -2
                forget(1) = -1; forget(-1) = -1; replay(4, 0) = -1; replay(0, 5) = -1; go() = -3; skip() = -3
                abort() = -3; status(9) = -2; conflict(0, 0) = -1; settle(0, 0) = -1; settle(0, 5) = -1
                foretell(4, 0, 0) = -1; foretell(0, 5, 0) = -1; foretell(0, 0, 6) = -2
                blank(5, 0, 1) = -1; blank(0, 2, 1) = -2; blank(0, 0, 25) = -2; blank(0, 0, -1) = -14
                show(5, 0) = -1; show(0, 5) = -1; trail(5, 0) = -1; trail(0, 5) = -1; hold(5, 0) = -1
                hold(0, 5) = -1; held(5) = -1; held(0) = -12; held(3) = -11; as(5, 0) = -1; as(0, 5) = -2
                as(0, 1) = -12; as(3, 0) = -11; lose(5) = -1; write(5, 0, 9) = -1; write(2, 0, 9) = -12
                write(3, 0, 9) = -11; write(0, 3, 9) = -13; write(1, -1, 9) = -13; number(5, 0) = LOST
                number(2, 0) = LOST; number(3, 0) = LOST; number(0, 3) = LOST; copy(5, 0, 0, 0, 1) = -1
                copy(0, 0, 5, 0, 1) = -1; copy(3, 0, 0, 0, 1) = -11; copy(0, 0, 3, 0, 1) = -11
                copy(2, 0, 0, 0, 1) = -12; copy(0, 0, 1, 0, 1) = -12; copy(0, 2, 4, 0, 2) = -13
                copy(4, 0, 0, 2, 2) = -13; copy(0, 0, 4, 0, -1) = -13; tell(5) = -1; many(4) = -2
                """);
        refuse("a replay is under way", UNDER_WAY, """
                commit(0, 0, 0) = -3; commit(0, 0, 1) = -3; commit(0, 3, 0) = -2; point(0, 0) = -3
                point(0, 7) = -1; anew() = -3; replay(0, 0) = -3; replay(0, 7) = -1; conflict(0, 5) = -2
                conflict(1, 0) = -1; settle(1, 0) = -1; settle(0, 5) = -1; settle(0, 1) = -12; settle(0, 2) = -12
                settle(0, 3) = -11; settle(0, 4) = -2; foretell(0, 0, 0) = -3; foretell(0, 0, 6) = -2
                status(9) = -2; forget(0) = -1; resolution(0, 0) = -1; tell(7) = -1; swaps(7) = -1
                """);
        refuse("there are 24 commits", FULL_OF_COMMITS, """
                commit(0, 0, 0) = -4; replay(0, 0) = -4; replay(0, 22) = -4; foretell(0, 0, 0) = -4
                commit(0, 0, 4) = -11; hold(1, 24) = -1
                """);
        refuse("there are 8 resolutions", FULL_OF_RESOLUTIONS, """
                settle(0, 2) = -4; settle(1, 2) = -1; settle(0, 0) = -2; forget(8) = -1
                """);
        Script.end();
    }

    private static void refuse(String where, String setup, String calls) {
        List<Script.Step> before = Script.parse(setup);
        List<Script.Step> questions = questions();
        long[] answers = new long[questions.size()];
        for (int q = 0; q < answers.length; q++) {
            answers[q] = ask(where, before, null, questions.get(q));
        }
        for (Script.Step refused : Script.parse(calls)) {
            String title = where + ", after " + refused;
            for (int q = 0; q < answers.length; q++) {
                Script.Step question = questions.get(q);
                long due = question.name().equals("fault") ? faultAfter(refused, answers[q]) : answers[q];
                Script.due(title, question.toString(), ask(where, before, refused, question), due);
            }
        }
    }

    /** A null leaves the state as the setup makes it. */
    private static long ask(String title, List<Script.Step> setup, Script.Step refused, Script.Step question) {
        CarriedCommits object = new CarriedCommits();
        for (Script.Step step : setup) {
            long got = Script.call(object, step.name(), step.arguments());
            if (step.want() != null && step.want() != got) {
                Script.due(title, step.toString(), got, step.want());
            }
        }
        if (refused != null) {
            long got = Script.call(object, refused.name(), refused.arguments());
            if (got != refused.want()) {
                Script.due(title, refused.toString(), got, refused.want());
            }
        }
        return Script.call(object, question.name(), question.arguments());
    }

    private static long faultAfter(Script.Step refused, long before) {
        if (!TOLD.contains(refused.name())) {
            return before;
        }
        if (refused.name().equals("number")) {
            // In the state that it is asked in: slot 5 is none, 2 holds a commit, 3 nothing, 0 three bytes.
            return switch ((int) refused.arguments()[0]) {
                case 5 -> 0;
                case 2 -> 2;
                case 3 -> 1;
                default -> 3;
            };
        }
        return refused.want() <= -11 ? -10 - refused.want() : 0;
    }

    private static List<Script.Step> questions() {
        StringBuilder text = new StringBuilder("fault(); trace(); go(); skip(); abort(); anew(); ");
        ask(text, "many(%d)", 0, 3);
        ask(text, "tip(%d)", 0, 3);
        ask(text, "status(%d)", 0, 8);
        for (int c = 0; c <= 24; c++) {
            ask(text, "ofCommit(" + c + ", %d)", 0, 5);
            ask(text, "ofCommit(" + c + ", %d)", 10, 15);
        }
        for (int k = 0; k <= 8; k++) {
            ask(text, "resolution(" + k + ", %d)", 0, 1);
            ask(text, "resolution(" + k + ", %d)", 10, 22);
            ask(text, "resolution(" + k + ", %d)", 70, 71);
        }
        for (int k = 0; k <= 1; k++) {
            ask(text, "conflict(" + k + ", %d)", 0, 4);
        }
        for (int s = 0; s <= 4; s++) {
            ask(text, "held(%d)", s, s);
            ask(text, "as(" + s + ", %d)", 0, 4);
            ask(text, "number(" + s + ", %d)", 0, 5);
        }
        return new ArrayList<>(Script.parse(text.toString()));
    }

    private static void ask(StringBuilder text, String call, int from, int to) {
        for (int i = from; i <= to; i++) {
            text.append(String.format(call, i)).append("; ");
        }
    }
}
