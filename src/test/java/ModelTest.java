import java.lang.reflect.InvocationTargetException;
import java.lang.reflect.Method;
import java.nio.charset.StandardCharsets;
import java.util.Arrays;
import java.util.Comparator;
import java.util.Random;

/** Drawn runs of calls (always the same ones): DustLand answers each as the model does. */
public final class ModelTest {
    private static final int RUNS = 150;
    private static final int CALLS = 512;

    /** For each method the greatest sensible value of each argument, from -1 on; drawn one too far at times. */
    private static final String[] RANGES = {
        "dust 11 9999", "surface 11 3", "law 1 99", "tenant 6 11", "of 7 6", "change 7 2 11", "mark 7 11",
        "charter 7 11 99", "swap 7 7", "sneeze 11 11", "go 40", "now 5", "ahead 11 60", "goods 7 60", "holder 11 60",
        "when 7 11", "clash", "rich 7 999", "seat 7 40", "kindFor 7 40", "draught 7 40", "fallFor 9999 40",
        "swapFor 7 40", "brooms 9999 20", "without 40", "fits 3 7", "kinds 3 7", "sneezes 20", "odds 14 1", "seed 9",
        "wipe", "text", "hold 9 7", "as 9 6", "sheet 3 40 40", "write 3 40 9999", "copy 3 40 3 40 40",
        "load 3", "judge 3", "image", "undo", "tear", "count 7", "status 6"};

    private static final String[] WORDS = {"tenant", "lord", "maid", "widow", "bishop", "cat", "heir", "dust", "fall",
        "draught", "at", "goods", "marks", ";", "-", " ", "  ", "0", "3", "11", "12", "99", "100", "007", "9999",
        "10000", "99999999999999999999", "x", "A", "\t", "\u00e9", "catat", "1;"};

    private final Random random;
    private final DustLand land = new DustLand();
    private final Model model = new Model();
    private final StringBuilder trace = new StringBuilder();

    private ModelTest(long seed) {
        random = new Random(seed);
    }

    public static void main(String[] args) throws ReflectiveOperationException {
        int wrong = 0;
        for (int run = 0; run < RUNS && wrong < 5; run++) {
            ModelTest test = new ModelTest(run);
            if (!test.holds()) {
                wrong++;
                System.out.println("run " + run + ": .. " + test.trace.substring(Math.max(0, test.trace.length() - 400)));
            }
        }
        System.out.println(wrong == 0 ? RUNS + " drawn runs are as the model's" : "some drawn runs are not as the model's");
        if (wrong != 0) System.exit(1);
    }

    private boolean holds() throws ReflectiveOperationException {
        if (random.nextInt(8) != 0 && !feedText(furnished())) return false;
        for (int i = 0; i < CALLS; i++) {
            if (!step()) return false;
        }
        return true;
    }

    private boolean step() throws ReflectiveOperationException {
        switch (random.nextInt(30)) {
            case 0: return feedText(furnished());
            case 1: return feedText(garbled());
            case 2: return call("feed", random.nextInt(), random.nextInt(6));
            case 3: return tellSheet();
            case 4: return call("undo");
            default:
        }
        String[] range = RANGES[random.nextInt(RANGES.length)].split(" ");
        int[] values = new int[range.length - 1];
        for (int i = 0; i < values.length; i++) values[i] = draw(Integer.parseInt(range[i + 1]));
        if (range[0].equals("sheet") && random.nextInt(8) != 0) values[1] = random.nextInt(5) * 8;
        if (range[0].equals("law") && values[0] == 1 && random.nextInt(8) != 0) values[1] = random.nextInt(9) - 4;
        if (range[0].equals("change") && values[1] == 2 && random.nextBoolean()) values[2] = random.nextInt(100001);
        if (range[0].equals("sneeze") && random.nextBoolean()) values[1] = -values[1];
        if (range[0].equals("seed")) values[0] = random.nextInt();
        if (range[0].equals("rich") && random.nextBoolean()) values[1] = ask("of", values[0], 2) + random.nextInt(60) - 10;
        if (range[0].matches("fallFor|brooms") && random.nextBoolean()) values[0] = ask("now", 1) + random.nextInt(400) - 200;
        return call(range[0], values);
    }

    /** What both are asked, so that both count the same findings. */
    private int ask(String name, int... values) throws ReflectiveOperationException {
        invoke(land, name, values);
        return (Integer) invoke(model, name, values);
    }

    private int draw(int most) {
        switch (random.nextInt(60)) {
            case 0: return Integer.MIN_VALUE;
            case 1: return Integer.MAX_VALUE;
            case 2: return -1;
            case 3: return most + 1;
            case 4: return most;
            case 5: return most + 2 + random.nextInt(100000);
            default: return random.nextInt(random.nextInt(4) == 0 ? 2 : most + 1);
        }
    }

    private boolean call(String name, int... values) throws ReflectiveOperationException {
        long got = ((Number) invoke(land, name, values)).longValue();
        long due = ((Number) invoke(model, name, values)).longValue();
        trace.append(name).append(Arrays.toString(values)).append(" = ").append(got).append("; ");
        if (got == due) return true;
        trace.append("due is ").append(due);
        return false;
    }

    private static Object invoke(Object target, String name, int[] values) throws ReflectiveOperationException {
        Method method = Arrays.stream(target.getClass().getMethods())
            .filter(m -> m.getName().equals(name) && m.getParameterCount() == values.length)
            .min(Comparator.comparing(Method::toString)).orElseThrow();
        try {
            return method.invoke(target, Arrays.stream(values).boxed().toArray());
        } catch (InvocationTargetException e) {
            throw new AssertionError(name + Arrays.toString(values), e.getCause());
        }
    }

    /** A sheet that tells true goods of some tenant here and there, so that fits and kinds have something to find. */
    private boolean tellSheet() throws ReflectiveOperationException {
        int s = random.nextInt(4);
        int n = random.nextInt(8);
        int t = random.nextInt(8);
        if (!call("sheet", s, 8 << random.nextInt(3), n)) return false;
        for (int i = 0; i < n; i++) {
            if (!call("write", s, i, random.nextInt(3) == 0 ? -1 : ask("goods", t, i))) return false;
        }
        return call("fits", s, t) && call("kinds", s, t) && call("judge", s);
    }

    private boolean feedText(String text) throws ReflectiveOperationException {
        if (!call("wipe")) return false;
        for (byte b : text.getBytes(StandardCharsets.ISO_8859_1)) {
            if (!call("feed", b, 1)) return false;
        }
        return call("text");
    }

    private String furnished() {
        StringBuilder text = new StringBuilder();
        int items = 1 + random.nextInt(7);
        for (int i = 0; i < items; i++) {
            if (i > 0) text.append(";");
            text.append(item());
        }
        return text.toString();
    }

    private String item() {
        switch (random.nextInt(8)) {
            case 0: return "fall " + random.nextInt(12);
            case 1: return "draught " + (random.nextBoolean() ? "-" : "") + random.nextInt(4);
            case 2: case 3: return "dust " + random.nextInt(12) + " " + random.nextInt(random.nextBoolean() ? 300 : 10000);
            default:
        }
        String text = WORDS[random.nextInt(7)];
        if (random.nextInt(4) != 0) text += " at " + random.nextInt(random.nextBoolean() ? 3 : 12);
        if (random.nextInt(2) != 0) text += " goods " + random.nextInt(10000);
        if (random.nextInt(2) != 0) text += " marks " + random.nextInt(100);
        return text;
    }

    private String garbled() {
        StringBuilder text = new StringBuilder(random.nextBoolean() ? furnished() : "");
        int times = 1 + random.nextInt(6);
        for (int i = 0; i < times; i++) {
            int at = random.nextInt(text.length() + 1);
            if (random.nextInt(3) == 0) {
                text.delete(at, Math.min(text.length(), at + 1 + random.nextInt(4)));
            } else {
                text.insert(at, WORDS[random.nextInt(WORDS.length)]);
            }
        }
        return text.toString();
    }
}
