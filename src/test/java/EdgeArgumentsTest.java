import java.util.ArrayList;
import java.util.List;
import java.util.Map;

/**
 * Every method with every choice of arguments at the edges of their ranges, in states that are
 * themselves at an edge: the class must answer as the model does, and no call may throw.
 */
public final class EdgeArgumentsTest {
    private static final int MIN = Integer.MIN_VALUE;
    private static final int MAX = Integer.MAX_VALUE;

    private static final int[] BRANCH = {MIN, -1, 0, 1, 3, 4, MAX};
    private static final int[] COMMIT = {MIN, -1, 0, 1, 2, 3, 5, 22, 23, 24, MAX};
    private static final int[] FEW_COMMITS = {-1, 0, 1, 2, 3, 24};
    private static final int[] SLOT = {MIN, -1, 0, 1, 2, 3, 4, 5, MAX};
    private static final int[] SMALL = {MIN, -1, 0, 1, 2, 3, 4, 5, MAX};
    private static final int[] INDEX = {MIN, -9, -1, 0, 1, 2, 7, 8, 15, 16, 17, 23, 24, 25, MAX};
    private static final int[] RANGE = {MIN, -1, 0, 1, 2, 3, MAX};
    private static final int[] WHAT = what();

    private static final Map<String, int[][]> EDGES = Map.ofEntries(
            Map.entry("commit", new int[][] {BRANCH, SMALL, SLOT}),
            Map.entry("ofCommit", new int[][] {COMMIT, WHAT}),
            Map.entry("piece", new int[][] {COMMIT, SMALL, WHAT}),
            Map.entry("mark", new int[][] {COMMIT}),
            Map.entry("alike", new int[][] {COMMIT, COMMIT}),
            Map.entry("fork", new int[][] {COMMIT, COMMIT}),
            Map.entry("ahead", new int[][] {COMMIT, COMMIT}),
            Map.entry("swaps", new int[][] {COMMIT}),
            Map.entry("tip", new int[][] {BRANCH}),
            Map.entry("point", new int[][] {BRANCH, COMMIT}),
            Map.entry("anew", new int[][] {}),
            Map.entry("merge", new int[][] {FEW_COMMITS, FEW_COMMITS, FEW_COMMITS,
                {MIN, -1, 0, 1, 2, 3, 9, 10, 25, 26, MAX}}),
            Map.entry("resolution", new int[][] {INDEX, WHAT}),
            Map.entry("forget", new int[][] {INDEX}),
            Map.entry("replay", new int[][] {BRANCH, COMMIT}),
            Map.entry("go", new int[][] {}),
            Map.entry("skip", new int[][] {}),
            Map.entry("abort", new int[][] {}),
            Map.entry("status", new int[][] {WHAT}),
            Map.entry("conflict", new int[][] {INDEX, WHAT}),
            Map.entry("settle", new int[][] {INDEX, SLOT}),
            Map.entry("foretell", new int[][] {BRANCH, COMMIT, {MIN, -1, 0, 1, 2, 3, 4, 5, 6, 9, 10, 25, 26, MAX}}),
            Map.entry("blank", new int[][] {SLOT, {MIN, -1, 0, 1, 2, MAX}, INDEX}),
            Map.entry("show", new int[][] {SLOT, COMMIT}),
            Map.entry("trail", new int[][] {SLOT, COMMIT}),
            Map.entry("hold", new int[][] {SLOT, COMMIT}),
            Map.entry("held", new int[][] {SLOT}),
            Map.entry("as", new int[][] {SLOT, SMALL}),
            Map.entry("lose", new int[][] {SLOT}),
            Map.entry("write", new int[][] {SLOT, INDEX, {MIN, -129, -128, 127, 128, 256, MAX}}),
            Map.entry("number", new int[][] {SLOT, INDEX}),
            Map.entry("copy", new int[][] {SLOT, RANGE, SLOT, RANGE, RANGE}),
            Map.entry("tell", new int[][] {COMMIT}),
            Map.entry("trace", new int[][] {}),
            Map.entry("fault", new int[][] {}),
            Map.entry("many", new int[][] {SMALL}));

    private EdgeArgumentsTest() {
    }

    public static void main(String[] args) {
        String slots = "slot 0 := 1, 2, 3; blank(1, 1, 2); hold(2, 0); slot 4 := 99, 100; ";
        tryAll("a new object", "");
        tryAll("slots of all sorts", slots);
        tryAll("a replay that is over", Rows.TWO_SIDES + "point(2, 1); replay(2, 3); replay(0, 1); " + slots);
        tryAll("a replay that has stopped", Rows.STOPPED + slots);
        tryAll("a replay whose conflict is settled", Rows.STOPPED + slots + "settle(0, 0) = 1; ");
        tryAll("a replay that has made a commit", Rows.ONE_MADE + "replay(1, 2) = 1; " + slots + "hold(2, 5); ");
        tryAll("after an abort", Rows.ONE_MADE + "replay(1, 2) = 1; " + slots + "hold(2, 5); abort() = 1; ");
        tryAll("24 commits", Rows.empties(0, 22) + slots + "commit(1, 2, 0) = 23; ");
        tryAll("8 resolutions", Rows.eightResolutions() + "slot 0 := 9, 9, 9, 9, 9, 9, 9, 9, 9; point(1, 0); "
                + "commit(1, 0, 0) = 10; replay(1, 1) = 1; ");
        tryAll("rows of 16 lines", Rows.count(0, 0, 15) + "commit(0, 0, 0) = 1; point(1, 1); " + Rows.count(0, 16, 31)
                + "commit(0, 1, 0) = 2; " + Rows.count(0, 84, 99) + "commit(1, 2, 0) = 3; replay(1, 2) = 1; "
                + "slot 1 := 99, 0; settle(0, 1) = 1; ");
        Script.end();
    }

    private static int[] what() {
        List<Integer> what = new ArrayList<>(List.of(MIN, MAX, MIN + 9, MAX - 9));
        for (int i = -3; i <= 130; i++) {
            what.add(i);
        }
        return what.stream().mapToInt(Integer::intValue).toArray();
    }

    private static void tryAll(String state, String setup) {
        List<Script.Step> before = Script.parse(setup);
        Script.due(state, "methods", EDGES.size(), Script.publicMethods(CarriedCommits.class).size());
        EDGES.forEach((name, edges) -> {
            Script.Step[] all = choices(name, edges);
            long differences = 0;
            for (Script.Step step : all) {
                differences += differs(state, before, step) ? 1 : 0;
            }
            Script.due(state, name + "() with " + all.length + " choices, differences", differences, 0);
        });
    }

    private static Script.Step[] choices(String name, int[][] edges) {
        int count = 1;
        for (int[] edge : edges) {
            count *= edge.length;
        }
        Script.Step[] all = new Script.Step[count];
        for (int n = 0; n < count; n++) {
            Object[] arguments = new Object[edges.length];
            int rest = n;
            for (int i = 0; i < edges.length; i++) {
                arguments[i] = edges[i][rest % edges[i].length];
                rest /= edges[i].length;
            }
            all[n] = new Script.Step(name, arguments, null);
        }
        return all;
    }

    /** Makes the call on new objects, and looks at the fault, the trace and the counts behind it. */
    private static boolean differs(String state, List<Script.Step> setup, Script.Step step) {
        CarriedCommits object = new CarriedCommits();
        Model model = new Model();
        for (Script.Step earlier : setup) {
            Script.call(object, earlier.name(), earlier.arguments());
            Script.call(model, earlier.name(), earlier.arguments());
        }
        long got = Script.call(object, step.name(), step.arguments());
        long want = Script.call(model, step.name(), step.arguments());
        boolean same = got == want && object.fault() == model.fault() && object.trace() == model.trace()
                && object.status(0) == model.status(0);
        for (int what = 0; what <= 3; what++) {
            same &= object.many(what) == model.many(what);
        }
        if (!same) {
            System.out.println(state + ": " + step + " answered " + got + ", the model " + want);
        }
        return !same;
    }
}
