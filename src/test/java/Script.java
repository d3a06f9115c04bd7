import java.lang.reflect.InvocationTargetException;
import java.lang.reflect.Method;

/**
 * Runs calls written as in the document, "name(args) = answer; ...", on one new object, and counts
 * the answers that are not due. "slot s := a, b, c" stands for blank(s, 0, n) and n calls of
 * write(); a call without an answer behind it is made and not looked at.
 */
final class Script {
    private static int wrong = 0;
    private static int looked = 0;

    private Script() {
    }

    static void run(String title, String text) {
        CarriedCommits object = new CarriedCommits();
        for (String statement : text.split(";")) {
            String trimmed = statement.strip();
            if (trimmed.isEmpty()) {
                continue;
            }
            if (trimmed.startsWith("slot ")) {
                fillSlot(title, object, trimmed);
            } else {
                runCall(title, object, trimmed);
            }
        }
    }

    private static void fillSlot(String title, CarriedCommits object, String statement) {
        String[] sides = statement.substring(5).split(":=", -1);
        int slot = Integer.parseInt(sides[0].strip());
        String[] lines = sides[1].isBlank() ? new String[0] : sides[1].split(",");
        due(title, statement, object.blank(slot, 0, lines.length), 1);
        for (int i = 0; i < lines.length; i++) {
            due(title, statement, object.write(slot, i, Integer.parseInt(lines[i].strip())), 1);
        }
    }

    private static void runCall(String title, CarriedCommits object, String statement) {
        String[] sides = statement.split("=");
        String call = sides[0].strip();
        long got = call(object, call);
        if (sides.length > 1) {
            due(title, call, got, Long.parseLong(sides[1].strip()));
        }
    }

    static long call(Object object, String call) {
        int bracket = call.indexOf('(');
        String name = call.substring(0, bracket);
        String inside = call.substring(bracket + 1, call.length() - 1);
        String[] words = inside.isBlank() ? new String[0] : inside.split(",");
        Object[] arguments = new Object[words.length];
        for (int i = 0; i < words.length; i++) {
            arguments[i] = Integer.parseInt(words[i].strip());
        }
        return call(object, name, arguments);
    }

    static long call(Object object, String name, Object... arguments) {
        for (Method method : object.getClass().getDeclaredMethods()) {
            if (method.getName().equals(name) && method.getParameterCount() == arguments.length) {
                try {
                    return ((Number) method.invoke(object, arguments)).longValue();
                } catch (InvocationTargetException | IllegalAccessException e) {
                    throw new IllegalStateException(name + " failed", e);
                }
            }
        }
        throw new IllegalArgumentException("no method " + name);
    }

    static void due(String title, String call, long got, long want) {
        looked++;
        if (got != want) {
            wrong++;
            System.out.println(title + ": " + call + " answered " + got + ", due is " + want);
        }
    }

    static void holds(String title, boolean condition) {
        due(title, "holds", condition ? 1 : 0, 1);
    }

    static void end() {
        System.out.println(looked + " answers looked at, " + wrong + " not as due");
        if (wrong != 0 || looked == 0) {
            System.exit(1);
        }
    }
}
