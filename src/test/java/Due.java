import java.nio.charset.StandardCharsets;

/** What the tests share: answers held against those that are due. */
final class Due {
    static final int BEYOND = -1000001;
    static final int FULL = -1000002;
    static final int KIND = -1000003;
    static final int NONE = -1000004;
    static final int STATE = -1000005;
    static final int MISSING = -1000006;
    static final int SIZE = -1000007;
    static final int LEAST = Integer.MIN_VALUE;
    static final int MOST = Integer.MAX_VALUE;

    private static int right = 0;
    private static int wrong = 0;

    private Due() {
    }

    static void due(String call, long got, long want) {
        if (got == want) {
            right++;
        } else {
            wrong++;
            System.out.println(call + " answered " + got + ", due is " + want);
        }
    }

    /** Each of some answers of one call with other arguments. */
    static void all(String calls, long want, long... got) {
        for (int i = 0; i < got.length; i++) due(calls + " (place " + i + ")", got[i], want);
    }

    static void feed(DustLand x, String text) {
        for (byte b : text.getBytes(StandardCharsets.ISO_8859_1)) x.feed(b, 1);
    }

    static int text(DustLand x, String text) {
        x.wipe();
        feed(x, text);
        return x.text();
    }

    static DustLand room(String text) {
        DustLand x = new DustLand();
        if (text(x, text) < 0) due("the test's own text " + text, x.text(), 0);
        return x;
    }

    /** Everything that can be asked for, but for findings counted: to see that nothing has changed. */
    static String look(DustLand x) {
        StringBuilder all = new StringBuilder();
        for (int what = 0; what <= 7; what++) all.append(x.count(what)).append(' ');
        for (int s = 0; s < 12; s++) {
            for (int what = 0; what <= 3; what++) all.append(x.surface(s, what)).append(' ');
        }
        for (int t = 0; t < x.count(1); t++) {
            for (int what = 0; what <= 6; what++) all.append(x.of(t, what)).append(' ');
            for (int s = 0; s < 12; s++) all.append(x.mark(t, s)).append(' ');
        }
        int fall = x.law(0, 0);
        x.law(0, fall);
        int draught = x.law(1, 0);
        x.law(1, draught);
        return all.append(fall).append(' ').append(draught).toString();
    }

    static void same(String call, String now, String before) {
        if (now.equals(before)) {
            right++;
        } else {
            wrong++;
            System.out.println(call + " changed " + before + " to " + now);
        }
    }

    static void end(String name) {
        System.out.println(name + ": " + right + " answers as due, " + wrong + " not");
        if (wrong != 0) System.exit(1);
    }
}
