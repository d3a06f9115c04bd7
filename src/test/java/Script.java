import java.lang.reflect.InvocationTargetException;
import java.lang.reflect.Method;
import java.util.ArrayList;
import java.util.HashMap;
import java.util.List;
import java.util.Map;

/**
 * Runs calls written as in the document, "name(args) = answer; ...", on one new object, and counts
 * the answers that are not due. A line's end parts calls as a semicolon does. "slot s := a, b, c"
 * stands for blank(s, 0, n) and n calls of write(); a call without an answer behind it is made and
 * not looked at.
 */
final class Script {
    /** What calls after these answer is free, so that no test may look at it. */
    static final int MOST_CALLS = 512;

    private static final Map<Class<?>, Map<String, Method>> METHODS = new HashMap<>();
    private static int wrong = 0;
    private static int looked = 0;

    /** A call, and the answer that is due; null if none is told. */
    record Step(String name, Object[] arguments, Long want) {
        @Override
        public String toString() {
            StringBuilder text = new StringBuilder(name + "(");
            for (int i = 0; i < arguments.length; i++) {
                text.append(i == 0 ? "" : ", ").append(arguments[i]);
            }
            return text.append(")").toString();
        }
    }

    private Script() {
    }

    static void run(String title, String text) {
        CarriedCommits object = new CarriedCommits();
        List<Step> steps = parse(text);
        holds(title + " has at most " + MOST_CALLS + " calls", steps.size() <= MOST_CALLS);
        for (Step step : steps) {
            long got = call(object, step.name, step.arguments);
            if (step.want != null) {
                due(title, step.toString(), got, step.want);
            }
        }
    }

    static List<Step> parse(String text) {
        List<Step> steps = new ArrayList<>();
        for (String statement : text.split("[;\n]")) {
            String trimmed = statement.strip();
            if (trimmed.startsWith("slot ")) {
                parseSlot(trimmed, steps);
            } else if (!trimmed.isEmpty()) {
                steps.add(parseCall(trimmed));
            }
        }
        return steps;
    }

    private static void parseSlot(String statement, List<Step> steps) {
        String[] sides = statement.substring(5).split(":=", -1);
        int slot = Integer.parseInt(sides[0].strip());
        String[] lines = sides[1].isBlank() ? new String[0] : sides[1].split(",");
        steps.add(new Step("blank", new Object[] {slot, 0, lines.length}, 1L));
        for (int i = 0; i < lines.length; i++) {
            steps.add(new Step("write", new Object[] {slot, i, Integer.parseInt(lines[i].strip())}, 1L));
        }
    }

    private static Step parseCall(String statement) {
        String[] sides = statement.split("=");
        String call = sides[0].strip();
        int bracket = call.indexOf('(');
        String inside = call.substring(bracket + 1, call.length() - 1);
        String[] words = inside.isBlank() ? new String[0] : inside.split(",");
        Object[] arguments = new Object[words.length];
        for (int i = 0; i < words.length; i++) {
            arguments[i] = number(words[i].strip());
        }
        Long want = sides.length > 1 ? longNumber(sides[1].strip()) : null;
        return new Step(call.substring(0, bracket), arguments, want);
    }

    /** MIN and MAX stand for the least and the greatest int. */
    private static int number(String word) {
        return switch (word) {
            case "MIN" -> Integer.MIN_VALUE;
            case "MAX" -> Integer.MAX_VALUE;
            default -> Integer.parseInt(word);
        };
    }

    private static long longNumber(String word) {
        return word.equals("LOST") ? Long.MIN_VALUE : word.startsWith("M") ? number(word) : Long.parseLong(word);
    }

    static long call(Object object, String name, Object... arguments) {
        Method method = METHODS.computeIfAbsent(object.getClass(), Script::publicMethods).get(name);
        if (method == null || method.getParameterCount() != arguments.length) {
            throw new IllegalArgumentException("no method " + name + " of " + arguments.length);
        }
        try {
            return ((Number) method.invoke(object, arguments)).longValue();
        } catch (InvocationTargetException | IllegalAccessException e) {
            throw new IllegalStateException(name + " failed", e);
        }
    }

    static Map<String, Method> publicMethods(Class<?> type) {
        Map<String, Method> methods = new HashMap<>();
        for (Method method : type.getDeclaredMethods()) {
            if (java.lang.reflect.Modifier.isPublic(method.getModifiers())) {
                methods.put(method.getName(), method);
            }
        }
        return methods;
    }

    static void due(String title, String call, long got, long want) {
        looked++;
        if (got != want) {
            wrong++;
            System.out.println(title + ": " + call + " answered " + got + ", due is " + want);
        }
    }

    static void holds(String title, boolean condition) {
        due(title, "holds", condition ? 1 : 0, 1);
    }

    static void end() {
        System.out.println(looked + " answers looked at, " + wrong + " not as due");
        if (wrong != 0 || looked == 0) {
            System.exit(1);
        }
    }
}
