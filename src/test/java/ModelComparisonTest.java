import java.lang.reflect.Method;
import java.util.ArrayList;
import java.util.Comparator;
import java.util.HashMap;
import java.util.List;
import java.util.Map;
import java.util.Random;
import java.util.TreeMap;

/**
 * Long runs of calls, made from fixed seeds, whose answers the class and the model must give
 * alike. The runs are steered to states in which much happens: rows are edits of rows that are
 * there, and replays are begun, settled, gone on with, skipped and aborted.
 */
public final class ModelComparisonTest {
    private static final int RUNS = 2500;
    private static final int CALLS = 512;
    private static final int[] ODD = {-1, 5, 24, 25, 99, 100, -9, Integer.MAX_VALUE, Integer.MIN_VALUE};
    private static final Map<String, Method> OF_CLASS = methods(CarriedCommits.class);
    private static final Map<String, Method> OF_MODEL = methods(Model.class);
    private static final List<Method> SORTED = sorted();

    private final Random random;
    private final int alphabet;
    private final int run;
    private final CarriedCommits object = new CarriedCommits();
    private final Model model = new Model();
    private final List<String> said = new ArrayList<>();
    private final Map<String, Integer> seen;
    private int calls = 0;
    private boolean differs = false;

    private ModelComparisonTest(int run, Map<String, Integer> seen) {
        this.run = run;
        this.seen = seen;
        random = new Random(run);
        alphabet = new int[] {2, 3, 5, 12, 100}[run % 5];
    }

    private static Map<String, Method> methods(Class<?> type) {
        Map<String, Method> methods = new HashMap<>();
        for (Method method : type.getDeclaredMethods()) {
            if (java.lang.reflect.Modifier.isPublic(method.getModifiers())) {
                methods.put(method.getName(), method);
            }
        }
        return methods;
    }

    /** By name, for the order of getDeclaredMethods() is not told and the runs are to stay the same. */
    private static List<Method> sorted() {
        List<Method> sorted = new ArrayList<>(OF_CLASS.values());
        sorted.sort(Comparator.comparing(Method::getName));
        return sorted;
    }

    public static void main(String[] args) {
        Map<String, Integer> seen = new TreeMap<>();
        Script.due("the face", "methods of the model", OF_MODEL.size(), OF_CLASS.size());
        for (int run = 0; run < RUNS; run++) {
            ModelComparisonTest test = new ModelComparisonTest(run, seen);
            test.play();
            Script.holds("run " + run + " answers as the model", !test.differs);
        }
        for (String answer : List.of("replay 0", "replay 1", "replay 2", "replay -4", "go 0", "go 1", "go 2", "skip 0",
                "skip 1", "skip 2", "settle 8", "settle -4", "foretell -4", "commit -4", "swaps 1", "held -9",
                "conflict 1", "alike 1")) {
            Script.holds("some run answers " + answer, seen.containsKey(answer));
        }
        Script.end();
    }

    private int say(String name, Integer... arguments) {
        if (calls >= CALLS || differs) {
            return 0;
        }
        calls++;
        try {
            long got = ((Number) OF_CLASS.get(name).invoke(object, (Object[]) arguments)).longValue();
            long want = ((Number) OF_MODEL.get(name).invoke(model, (Object[]) arguments)).longValue();
            said.add(name + List.of(arguments) + " = " + want);
            seen.merge(name + " " + want, 1, Integer::sum);
            if (got != want) {
                differs = true;
                System.out.println("run " + run + ", call " + calls + ": " + name + List.of(arguments)
                        + " answered " + got + ", due is " + want);
                System.out.println(String.join("; ", said));
            }
            return (int) want;
        } catch (ReflectiveOperationException e) {
            throw new IllegalStateException(name + List.of(arguments) + " in run " + run, e);
        }
    }

    private void play() {
        boolean full = run % 7 == 0;
        while (calls < CALLS && !differs) {
            int dice = random.nextInt(100);
            if (model.isUnderWay() && dice < 45) {
                steerReplay();
            } else if (dice < 25) {
                commitAnEdit();
            } else if (dice < 40) {
                startReplay();
            } else if (dice < 44) {
                say("point", random.nextInt(4), anyCommit());
            } else if (dice < 45 && random.nextInt(full ? 40 : 6) == 0) {
                say("anew");
            } else if (dice < 80) {
                look();
            } else {
                anyCall();
            }
        }
    }

    private int anyCommit() {
        return random.nextInt(model.commitCount());
    }

    private void putRow(int slot, List<Integer> row) {
        say("blank", slot, 0, row.size());
        for (int i = 0; i < row.size(); i++) {
            if (row.get(i) != 0) {
                say("write", slot, i, row.get(i));
            }
        }
    }

    private void commitAnEdit() {
        int branch = random.nextInt(4);
        List<Integer> row = new ArrayList<>(model.rowOf(model.tip(branch)));
        if (random.nextInt(6) == 0) {
            row = new ArrayList<>(model.rowOf(anyCommit()));
        }
        int edits = row.isEmpty() ? 2 + random.nextInt(8) : random.nextInt(4);
        for (int e = 0; e < edits; e++) {
            int dice = random.nextInt(5);
            int line = random.nextInt(alphabet);
            if (row.isEmpty() || (dice < 3 && row.size() < 16)) {
                row.add(random.nextInt(row.size() + 1), line);
            } else if (dice == 3) {
                row.set(random.nextInt(row.size()), line);
            } else {
                row.remove(random.nextInt(row.size()));
            }
        }
        if (random.nextInt(12) == 0) {
            while (row.size() < 14) {
                row.add(random.nextInt(row.size() + 1), random.nextInt(alphabet));
            }
        }
        int slot = random.nextInt(5);
        putRow(slot, row);
        int made = say("commit", branch, random.nextInt(5) < 3 ? 0 : random.nextInt(3), slot);
        if (made > 0 && random.nextInt(4) == 0) {
            say("commit", random.nextInt(4), random.nextInt(3), slot);
        }
    }

    private void startReplay() {
        int branch = random.nextInt(4);
        int onto = random.nextInt(3) == 0 ? anyCommit() : model.tip(random.nextInt(4));
        say("foretell", branch, onto, random.nextInt(6));
        say("foretell", branch, onto, 10 + random.nextInt(16));
        say("replay", branch, onto);
    }

    private void steerReplay() {
        int open = model.openNow();
        int dice = random.nextInt(12);
        if (open > 0 && dice < 6) {
            int k = random.nextInt(open);
            List<Integer> lines = model.linesInConflict(k);
            List<Integer> row = new ArrayList<>();
            int size = random.nextInt(random.nextInt(5) == 0 ? 8 : 4);
            for (int i = 0; i < size; i++) {
                row.add(random.nextInt(3) == 0 ? random.nextInt(alphabet) : lines.get(random.nextInt(lines.size())));
            }
            lookAtConflict(k);
            putRow(4, row);
            say("settle", k, 4);
            say("resolution", random.nextInt(8), 10 + random.nextInt(51));
            say("resolution", random.nextInt(8), 70 + random.nextInt(6));
        } else if (dice < 8) {
            say("go");
        } else if (dice < 10) {
            say("skip");
        } else if (dice == 10) {
            say("forget", random.nextInt(8));
        } else {
            say("hold", random.nextInt(5), model.commitCount() - 1);
            say("abort");
        }
    }

    private void lookAtConflict(int k) {
        say("conflict", k, random.nextInt(5));
        say("conflict", k, 10 + random.nextInt(111));
        say("conflict", k, 70 + random.nextInt(12));
    }

    private void look() {
        int c = anyCommit();
        switch (random.nextInt(12)) {
            case 0 -> say("ofCommit", c, random.nextInt(26));
            case 1 -> say("piece", c, random.nextInt(3), random.nextInt(46));
            case 2 -> say("mark", c);
            case 3 -> say("alike", c, anyCommit());
            case 4 -> say("fork", c, anyCommit());
            case 5 -> say("ahead", c, anyCommit());
            case 6 -> say("swaps", c);
            case 7 -> say("merge", anyCommit(), c, anyCommit(), random.nextInt(3));
            case 8 -> say("merge", anyCommit(), c, anyCommit(), 10 + random.nextInt(16));
            case 9 -> say("status", random.nextInt(9));
            case 10 -> say("many", random.nextInt(4));
            default -> say(random.nextBoolean() ? "trace" : "fault");
        }
    }

    private void anyCall() {
        Method method = SORTED.get(random.nextInt(SORTED.size()));
        if (method.getName().equals("anew")) {
            return;
        }
        Integer[] arguments = new Integer[method.getParameterCount()];
        for (int i = 0; i < arguments.length; i++) {
            arguments[i] = random.nextInt(12) == 0 ? ODD[random.nextInt(ODD.length)] : random.nextInt(i == 0 ? 5 : 8);
        }
        say(method.getName(), arguments);
    }
}
