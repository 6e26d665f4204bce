import java.io.IOException;
import java.lang.reflect.Constructor;
import java.lang.reflect.Field;
import java.lang.reflect.Member;
import java.lang.reflect.Method;
import java.lang.reflect.Modifier;
import java.nio.file.Files;
import java.nio.file.Path;
import java.util.ArrayList;
import java.util.Arrays;
import java.util.List;
import java.util.Set;
import java.util.TreeSet;
import java.util.regex.Matcher;
import java.util.regex.Pattern;
import java.util.stream.Collectors;

/** The face is the document's and no more; the source keeps to what of LANGUAGE.md can be seen from outside. */
public final class FaceTest {
    private static final String[] FACE = {
        "int dust 2", "int surface 2", "int law 2", "int tenant 2", "int of 2", "int change 3", "int mark 2", "int charter 3",
        "int swap 2", "int sneeze 2", "int go 1", "int now 1", "int ahead 2", "int goods 2", "int holder 2", "int when 2",
        "int clash 0", "int rich 2", "int seat 2", "int kindFor 2", "int draught 2", "int fallFor 2", "int swapFor 2",
        "int brooms 2", "int without 1", "int fits 2", "int kinds 2", "int sneezes 1", "long odds 2", "int seed 1", "int feed 2",
        "int wipe 0", "int text 0", "int hold 2", "int as 2", "int sheet 3", "int write 3", "int copy 5", "int load 1",
        "int judge 1", "int image 0", "int undo 0", "int tear 0", "int count 1", "int status 1"};

    private static final String[] FORBIDDEN = {"\\bthrow\\b", "\\bthrows\\b", "\\btry\\b", "\\bcatch\\b", "\\bfinally\\b",
        "\\bsynchronized\\b", "\\bassert\\b", "->", "::", "\\bpackage\\b", "\\bimport\\b", "Exact\\(", "\\bnull\\b", "\"\\s*\\+", "\\+\\s*\""};

    private static final List<String> faults = new ArrayList<>();

    public static void main(String[] args) throws IOException {
        face();
        classesInside();
        source(Files.readString(Path.of(args.length > 0 ? args[0] : "src/main/java/DustLand.java")));
        faults.forEach(System.out::println);
        System.out.println("FaceTest: " + (faults.isEmpty() ? "the face is as due" : faults.size() + " faults"));
        if (!faults.isEmpty()) System.exit(1);
    }

    private static void check(boolean holds, String fault) {
        if (!holds) faults.add(fault);
    }

    private static void face() {
        int modifiers = DustLand.class.getModifiers();
        check(Modifier.isPublic(modifiers) && Modifier.isFinal(modifiers), "the class is not public and final");
        Set<String> due = new TreeSet<>(Arrays.asList(FACE));
        Set<String> open = new TreeSet<>();
        Set<String> hidden = new TreeSet<>();
        for (Method m : DustLand.class.getDeclaredMethods()) {
            if (Modifier.isPrivate(m.getModifiers())) {
                hidden.add(m.getName());
                continue;
            }
            boolean ints = Arrays.stream(m.getParameterTypes()).allMatch(t -> t == int.class);
            boolean plain = m.getModifiers() == Modifier.PUBLIC && m.getExceptionTypes().length == 0;
            check(ints && plain, m + " is not of the face");
            open.add(m.getReturnType() + " " + m.getName() + " " + m.getParameterCount());
        }
        check(open.equals(due), "the face is " + open + ", due is " + due);
        hidden.retainAll(Arrays.stream(FACE).map(f -> f.split(" ")[1]).collect(Collectors.toSet()));
        check(hidden.isEmpty(), "private methods bear names of the face: " + hidden);
        Constructor<?>[] made = DustLand.class.getDeclaredConstructors();
        check(made.length == 1 && made[0].getParameterCount() == 0 && made[0].getModifiers() == Modifier.PUBLIC, "the constructor");
        fields(DustLand.class);
    }

    private static void fields(Class<?> type) {
        int kept = 0;
        for (Field f : type.getDeclaredFields()) {
            boolean still = Modifier.isStatic(f.getModifiers());
            check(!still || Modifier.isFinal(f.getModifiers()), f + " is static and not final");
            check(type != DustLand.class || Modifier.isPrivate(f.getModifiers()), f + " is not private");
            if (!still) kept++;
        }
        check(kept <= 20, type + " has " + kept + " fields");
    }

    private static void classesInside() {
        Class<?>[] inside = DustLand.class.getDeclaredClasses();
        check(inside.length < 12, "too many classes");
        for (Class<?> type : inside) {
            int modifiers = type.getModifiers();
            check(Modifier.isStatic(modifiers), type + " is not static");
            check(!Modifier.isPublic(modifiers) && !Modifier.isProtected(modifiers), type + " is open");
            fields(type);
            Set<String> names = Arrays.stream(type.getDeclaredMethods()).map(Member::getName).collect(Collectors.toSet());
            names.retainAll(Arrays.stream(FACE).map(f -> f.split(" ")[1]).collect(Collectors.toSet()));
            check(names.isEmpty(), type + " has methods with names of the face: " + names);
        }
    }

    private static void source(String text) {
        String code = text.replaceAll("(?s)/\\*.*?\\*/", "").replaceAll("//[^\n]*", "");
        for (String forbidden : FORBIDDEN) {
            Matcher found = Pattern.compile(forbidden).matcher(code);
            check(!found.find(), "the source has " + forbidden);
        }
        check(code.chars().allMatch(c -> c < 128), "the source has a sign above 127");
        String[] lines = code.split("\n");
        int from = -1;
        String end = "";
        for (int i = 0; i < lines.length; i++) {
            Matcher head = Pattern.compile("^( +)[a-zA-Z].*\\) \\{$").matcher(lines[i]);
            if (from < 0 && head.matches() && !lines[i].contains(" class ")) {
                from = i;
                end = head.group(1) + "}";
            }
            if (from >= 0 && lines[i].equals(end)) {
                check(i - from <= 60, "a method of " + (i - from) + " lines: " + lines[from].trim());
                from = -1;
            }
        }
    }
}
