import java.util.ArrayList;
import java.util.Arrays;
import java.util.List;
import java.util.regex.Matcher;
import java.util.regex.Pattern;

/**
 * One row of an edges file: a call, perhaps so many times, perhaps with the answer that is due.
 * <pre>
 * dust(0, 9999) = 0        arguments: numbers, MIN, MAX (of an int)
 * surface(0..11, 0) = 0    a row for each of 0 to 11
 * dust(12, 0) = BEYOND     a finding by its name: then nothing but status() may have changed
 * fits(0, 1) = {0, 11}     a set
 * 511 x dust(0, 7)         so many times; the answer is that of the last
 * tape "cat" = 3           feeds bytes: how many the tape has (\x41 is a byte by its number)
 * text "cat" = 1           wipes, feeds and reads
 * </pre>
 */
final class Row {
    static final List<String> FINDINGS = List.of("BEYOND", "FULL", "KIND", "NONE", "STATE", "MISSING", "SIZE");
    static final int LOW = -1000001;

    private static final Pattern FORM =
        Pattern.compile("(?:(\\d+) x )?(?:(\\w+)\\(([^)]*)\\)|(tape|text) \"([^\"]*)\")(?: = (\\S.*))?");
    private static final Pattern BYTE = Pattern.compile("\\\\x([0-9a-f]{2})");

    final String line;
    final int times;
    final String name;
    final int[] args;
    /** What tape and text feed; null with calls of the face. */
    final String bytes;
    final boolean isChecked;
    final long due;
    /** 0 to 6 for BEYOND to SIZE; -1: the answer is none. */
    final int finding;

    private Row(String line, Matcher form, int[] args) {
        this.line = line;
        this.args = args;
        times = form.group(1) == null ? 1 : Integer.parseInt(form.group(1));
        name = form.group(2) == null ? form.group(4) : form.group(2);
        bytes = form.group(5) == null ? null : BYTE.matcher(form.group(5))
            .replaceAll(m -> Matcher.quoteReplacement("" + (char) Integer.parseInt(m.group(1), 16)));
        isChecked = form.group(6) != null;
        due = isChecked ? answer(form.group(6)) : 0;
        // What seed and count tell may be any number: there only a name tells a finding.
        boolean isNamed = isChecked && FINDINGS.contains(form.group(6));
        boolean isNumber = !isNamed && (name.equals("seed") || name.equals("count"));
        finding = due <= LOW && due > LOW - FINDINGS.size() && !isNumber ? (int) (LOW - due) : -1;
    }

    static List<Row> of(String line) {
        Matcher form = FORM.matcher(line);
        if (!form.matches()) throw new IllegalArgumentException("no row: " + line);
        List<int[]> all = new ArrayList<>(List.of(new int[0]));
        String told = form.group(3);
        if (told != null && !told.isBlank()) {
            for (String arg : told.split(",")) all = withEach(all, arg.trim());
        }
        List<Row> rows = new ArrayList<>();
        for (int[] args : all) rows.add(new Row(line, form, args));
        return rows;
    }

    private static List<int[]> withEach(List<int[]> begun, String arg) {
        String[] ends = arg.split("\\.\\.");
        List<int[]> all = new ArrayList<>();
        for (int[] row : begun) {
            for (long v = number(ends[0]); v <= number(ends[ends.length - 1]); v++) {
                int[] longer = Arrays.copyOf(row, row.length + 1);
                longer[row.length] = (int) v;
                all.add(longer);
            }
        }
        return all;
    }

    private static int number(String told) {
        if (told.equals("MIN")) return Integer.MIN_VALUE;
        if (told.equals("MAX")) return Integer.MAX_VALUE;
        return Integer.parseInt(told);
    }

    private static long answer(String told) {
        if (FINDINGS.contains(told)) return LOW - FINDINGS.indexOf(told);
        if (!told.startsWith("{")) return Long.parseLong(told);
        long set = 0;
        for (String bit : told.substring(1, told.length() - 1).split(",")) {
            if (!bit.isBlank()) set |= 1L << Integer.parseInt(bit.trim());
        }
        return set;
    }

    long on(Land land) {
        long answer = 0;
        for (int i = 0; i < times; i++) {
            if (bytes == null) answer = land.call(name, args);
            else answer = name.equals("tape") ? land.feed(bytes) : land.text(bytes);
        }
        return answer;
    }

    @Override
    public String toString() {
        return args.length == 0 ? line : line + " with " + Arrays.toString(args);
    }
}
