import java.io.IOException;
import java.lang.reflect.Constructor;
import java.lang.reflect.Field;
import java.lang.reflect.Member;
import java.lang.reflect.Method;
import java.lang.reflect.Modifier;
import java.nio.file.Files;
import java.nio.file.Path;
import java.util.ArrayList;
import java.util.Arrays;
import java.util.List;
import java.util.Set;
import java.util.TreeSet;
import java.util.regex.Matcher;
import java.util.regex.Pattern;
import java.util.stream.Collectors;

/** The face is the document's and no more; the source keeps to what of LANGUAGE.md can be seen from outside. */
public final class FaceTest {
    /** A method as the document writes it out under 'The public face'. */
    private static final Pattern METHOD = Pattern.compile("    public (int|long) (\\w+)\\(([^)]*)\\);");

    private static final String[] FORBIDDEN = {"\\bthrow\\b", "\\bthrows\\b", "\\btry\\b", "\\bcatch\\b", "\\bfinally\\b",
        "\\bsynchronized\\b", "\\bassert\\b", "->", "::", "\\bpackage\\b", "\\bimport\\b", "Exact\\(", "\\bnull\\b", "\"\\s*\\+", "\\+\\s*\""};

    private static final List<String> faults = new ArrayList<>();
    /** Each method of the face as 'int dust 2', and by its name alone. */
    private static final Set<String> due = new TreeSet<>();
    private static final Set<String> names = new TreeSet<>();

    public static void main(String[] args) throws IOException {
        String shared = System.getenv("SHARED") == null ? "../shared" : System.getenv("SHARED");
        readFace(Files.readString(Path.of(shared, "DOC.md")));
        face();
        classesInside();
        source(Files.readString(Path.of(args.length > 0 ? args[0] : "src/main/java/DustLand.java")));
        faults.forEach(System.out::println);
        System.out.println("FaceTest: " + (faults.isEmpty() ? "the face is as due" : faults.size() + " faults"));
        if (!faults.isEmpty()) System.exit(1);
    }

    private static void check(boolean holds, String fault) {
        if (!holds) faults.add(fault);
    }

    private static void readFace(String document) {
        Matcher method = METHOD.matcher(document);
        while (method.find()) {
            int parameters = method.group(3).isEmpty() ? 0 : method.group(3).split(",").length;
            due.add(method.group(1) + " " + method.group(2) + " " + parameters);
            names.add(method.group(2));
        }
        // All promises but that of a new object are of a method.
        Matcher promise = Pattern.compile("(?m)^## Promise \\d+: (\\w+)$").matcher(document);
        while (promise.find()) check(names.contains(promise.group(1)), "the face has no " + promise.group(1));
        check(due.size() == 45, "the document's face was read as " + due.size() + " methods");
    }

    private static void face() {
        int modifiers = DustLand.class.getModifiers();
        check(Modifier.isPublic(modifiers) && Modifier.isFinal(modifiers), "the class is not public and final");
        Set<String> open = new TreeSet<>();
        Set<String> hidden = new TreeSet<>();
        for (Method m : DustLand.class.getDeclaredMethods()) {
            if (Modifier.isPrivate(m.getModifiers())) {
                hidden.add(m.getName());
                continue;
            }
            boolean ints = Arrays.stream(m.getParameterTypes()).allMatch(t -> t == int.class);
            boolean plain = m.getModifiers() == Modifier.PUBLIC && m.getExceptionTypes().length == 0;
            check(ints && plain, m + " is not of the face");
            open.add(m.getReturnType() + " " + m.getName() + " " + m.getParameterCount());
        }
        check(open.equals(due), "the face is " + open + ", due is " + due);
        hidden.retainAll(names);
        check(hidden.isEmpty(), "private methods bear names of the face: " + hidden);
        Constructor<?>[] made = DustLand.class.getDeclaredConstructors();
        check(made.length == 1 && made[0].getParameterCount() == 0 && made[0].getModifiers() == Modifier.PUBLIC, "the constructor");
        fields(DustLand.class);
    }

    private static void fields(Class<?> type) {
        int kept = 0;
        for (Field f : type.getDeclaredFields()) {
            boolean still = Modifier.isStatic(f.getModifiers());
            check(!still || Modifier.isFinal(f.getModifiers()), f + " is static and not final");
            check(type != DustLand.class || Modifier.isPrivate(f.getModifiers()), f + " is not private");
            if (!still) kept++;
        }
        check(kept <= 20, type + " has " + kept + " fields");
    }

    private static void classesInside() {
        Class<?>[] inside = DustLand.class.getDeclaredClasses();
        check(inside.length < 12, "too many classes");
        for (Class<?> type : inside) {
            int modifiers = type.getModifiers();
            check(Modifier.isStatic(modifiers), type + " is not static");
            check(!Modifier.isPublic(modifiers) && !Modifier.isProtected(modifiers), type + " is open");
            fields(type);
            Set<String> taken = Arrays.stream(type.getDeclaredMethods()).map(Member::getName).collect(Collectors.toSet());
            taken.retainAll(names);
            check(taken.isEmpty(), type + " has methods with names of the face: " + taken);
        }
    }

    private static void source(String text) {
        String code = text.replaceAll("(?s)/\\*.*?\\*/", "").replaceAll("//[^\n]*", "");
        for (String forbidden : FORBIDDEN) {
            Matcher found = Pattern.compile(forbidden).matcher(code);
            check(!found.find(), "the source has " + forbidden);
        }
        check(code.chars().allMatch(c -> c < 128), "the source has a sign above 127");
        String[] lines = code.split("\n");
        int from = -1;
        String end = "";
        for (int i = 0; i < lines.length; i++) {
            Matcher head = Pattern.compile("^( +)[a-zA-Z].*\\) \\{$").matcher(lines[i]);
            if (from < 0 && head.matches() && !lines[i].contains(" class ")) {
                from = i;
                end = head.group(1) + "}";
            }
            if (from >= 0 && lines[i].equals(end)) {
                check(i - from <= 60, "a method of " + (i - from) + " lines: " + lines[from].trim());
                from = -1;
            }
        }
    }
}
