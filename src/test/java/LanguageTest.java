import java.io.IOException;
import java.lang.reflect.Constructor;
import java.lang.reflect.Field;
import java.lang.reflect.Method;
import java.lang.reflect.Modifier;
import java.nio.file.Files;
import java.nio.file.Path;
import java.util.ArrayList;
import java.util.List;
import java.util.Set;
import java.util.TreeSet;
import java.util.regex.Matcher;
import java.util.regex.Pattern;

/** The rules of LANGUAGE.md that can be seen from the source and from the compiled classes. */
public final class LanguageTest {
    private static final String[] FACE = {
        "int commit(int,int,int)", "int ofCommit(int,int)", "int piece(int,int,int)", "int mark(int)",
        "int alike(int,int)", "int fork(int,int)", "int ahead(int,int)", "int swaps(int)", "int tip(int)",
        "int point(int,int)", "int anew()", "int merge(int,int,int,int)", "int resolution(int,int)",
        "int forget(int)", "int replay(int,int)", "int go()", "int skip()", "int abort()", "int status(int)",
        "int conflict(int,int)", "int settle(int,int)", "int foretell(int,int,int)", "int blank(int,int,int)",
        "int show(int,int)", "int trail(int,int)", "int hold(int,int)", "int held(int)", "int as(int,int)",
        "int lose(int)", "int write(int,int,int)", "long number(int,int)", "int copy(int,int,int,int,int)",
        "int tell(int)", "int trace()", "int fault()", "int many(int)",
    };

    /** Rule 5. */
    private static final Set<Class<?>> CONSTANTS = Set.of(int.class, long.class, boolean.class, char.class,
            String.class, int[].class, long[].class, char[].class, byte[].class);

    private LanguageTest() {
    }

    public static void main(String[] args) throws IOException {
        String source = Files.readString(Path.of(args[0]));
        Script.holds("signs are 1 to 127", source.chars().allMatch(sign -> sign >= 1 && sign <= 127));
        String code = source.replaceAll("(?s)/\\*.*?\\*/", "").replaceAll("//[^\\n]*", "");
        words(code);
        face();
        List<Class<?>> classes = new ArrayList<>(List.of(CarriedCommits.class.getDeclaredClasses()));
        classes.add(CarriedCommits.class);
        Script.holds("some twelve classes", classes.size() <= 12);
        for (Class<?> type : classes) {
            oneClass(type);
        }
        methodLengths(code);
        Script.end();
    }

    private static void words(String code) {
        for (String word : new String[] {"throw", "throws", "try", "catch", "finally", "synchronized", "assert",
            "static {", "->", "::", "Object", "System.out", "Thread", "Exception", "Exact(", "equals(", "hashCode",
            "toString", "package"}) {
            boolean isName = Character.isLetter(word.charAt(word.length() - 1));
            String pattern = (Character.isLetter(word.charAt(0)) ? "\\b" : "") + Pattern.quote(word)
                    + (isName ? "\\b" : "");
            Script.holds("no " + word, !Pattern.compile(pattern).matcher(code).find());
        }
        Matcher imports = Pattern.compile("import ([^;]+);").matcher(code);
        while (imports.find()) {
            Script.holds("import " + imports.group(1), imports.group(1).equals("java.util.Arrays"));
        }
        Matcher uses = Pattern.compile("\\b(Arrays|System|Math)\\.(\\w+)").matcher(code);
        Set<String> allowed = Set.of("Arrays.copyOf", "Arrays.copyOfRange", "Arrays.fill", "System.arraycopy",
                "Math.min", "Math.max");
        while (uses.find()) {
            Script.holds("use of " + uses.group(), allowed.contains(uses.group()));
        }
    }

    private static void face() {
        Set<String> due = new TreeSet<>(List.of(FACE));
        Set<String> got = new TreeSet<>();
        Set<String> names = new TreeSet<>();
        for (Method method : CarriedCommits.class.getDeclaredMethods()) {
            if (Modifier.isPrivate(method.getModifiers())) {
                continue;
            }
            Script.holds(method + " is public and of the object", method.getModifiers() == Modifier.PUBLIC);
            StringBuilder text = new StringBuilder(method.getReturnType() + " " + method.getName() + "(");
            for (Class<?> parameter : method.getParameterTypes()) {
                text.append(text.charAt(text.length() - 1) == '(' ? "" : ",").append(parameter);
            }
            got.add(text.append(")").toString());
            names.add(method.getName());
        }
        Script.holds("the public methods are the document's: " + got, got.equals(due));
        for (Method method : CarriedCommits.class.getDeclaredMethods()) {
            Script.holds(method + " has a name of its own",
                    !Modifier.isPrivate(method.getModifiers()) || !names.contains(method.getName()));
        }
        Script.holds("final", Modifier.isFinal(CarriedCommits.class.getModifiers()));
        Script.due("the constants", "UNKNOWN", CarriedCommits.UNKNOWN, -1);
        Script.due("the constants", "OUTSIDE", CarriedCommits.OUTSIDE, -2);
        Script.due("the constants", "STATE", CarriedCommits.STATE, -3);
        Script.due("the constants", "FULL", CarriedCommits.FULL, -4);
        Script.due("the constants", "NONE", CarriedCommits.NONE, -9);
        Script.due("the constants", "LOST", CarriedCommits.LOST, Long.MIN_VALUE);
        Set<String> constants = Set.of("UNKNOWN", "OUTSIDE", "STATE", "FULL", "NONE", "LOST");
        for (Field field : CarriedCommits.class.getDeclaredFields()) {
            Script.holds(field + " is private or the document's",
                    Modifier.isPrivate(field.getModifiers()) || constants.contains(field.getName()));
        }
        Script.due("the constructors", "count", CarriedCommits.class.getConstructors().length, 1);
    }

    private static void oneClass(Class<?> type) {
        Script.holds(type + " is static", type == CarriedCommits.class || Modifier.isStatic(type.getModifiers()));
        Script.holds(type + " is not open to others", type == CarriedCommits.class
                || !Modifier.isPublic(type.getModifiers()) && !Modifier.isProtected(type.getModifiers()));
        Script.holds(type + " has no class inside", type == CarriedCommits.class
                || type.getDeclaredClasses().length == 0);
        types(type);
        int fields = 0;
        for (Field field : type.getDeclaredFields()) {
            if (Modifier.isStatic(field.getModifiers())) {
                Script.holds(field + " is final", Modifier.isFinal(field.getModifiers()));
                Script.holds(field + " is a constant", CONSTANTS.contains(field.getType()));
            } else {
                fields++;
            }
        }
        Script.holds(type + " has at most twenty fields", fields <= 20);
        for (Method method : type.getDeclaredMethods()) {
            Script.holds(method + " has at most seven parameters", method.getParameterCount() <= 7);
        }
    }

    private static void types(Class<?> type) {
        for (Field field : type.getDeclaredFields()) {
            Script.holds(field + " is of an allowed type", isAllowed(field.getType()));
        }
        for (Method method : type.getDeclaredMethods()) {
            Script.holds(method + " answers an allowed type", isAllowed(method.getReturnType()));
            for (Class<?> parameter : method.getParameterTypes()) {
                Script.holds(method + " takes allowed types", isAllowed(parameter));
            }
        }
        for (Constructor<?> constructor : type.getDeclaredConstructors()) {
            Script.holds(constructor + " has at most seven parameters", constructor.getParameterCount() <= 7);
            for (Class<?> parameter : constructor.getParameterTypes()) {
                Script.holds(constructor + " takes allowed types", isAllowed(parameter));
            }
        }
    }

    /** What the class uses of rule 3: numbers, its own classes, and arrays of one dimension of these. */
    private static boolean isAllowed(Class<?> type) {
        Class<?> element = type.isArray() ? type.getComponentType() : type;
        return element.isPrimitive() || element.getEnclosingClass() == CarriedCommits.class;
    }

    /** Methods begin and end with the indentation of their class's members. */
    private static void methodLengths(String code) {
        String[] lines = code.split("\n");
        int begin = -1;
        String end = "";
        for (int i = 0; i < lines.length; i++) {
            if (begin < 0 && lines[i].matches(" {4,8}[\\w<].*\\) \\{")) {
                begin = i;
                end = lines[i].replaceAll("\\S.*", "") + "}";
            } else if (begin >= 0 && lines[i].equals(end)) {
                Script.holds(lines[begin].strip() + " is short", i - begin < 60);
                begin = -1;
            }
        }
    }
}
