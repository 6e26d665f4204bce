import java.util.ArrayList;
import java.util.Arrays;
import java.util.List;
import java.util.function.Consumer;
import java.util.function.ToIntFunction;
import java.util.regex.Matcher;
import java.util.regex.Pattern;

/** The document read once more, with the whole Java library and no regard for speed: what DustLand is held against. */
public final class Model {
    static final int BEYOND = -1000001;
    static final int FULL = BEYOND - 1;
    static final int KIND = BEYOND - 2;
    static final int NONE = BEYOND - 3;
    static final int STATE = BEYOND - 4;
    static final int MISSING = BEYOND - 5;
    static final int SIZE = BEYOND - 6;

    static final List<String> NAMES = List.of("tenant", "lord", "maid", "widow", "bishop", "cat", "heir");

    static final class Tenant {
        String kind;
        int at;
        int goods;
        int[] marks = new int[12];

        Tenant twin() {
            Tenant t = new Tenant();
            t.kind = kind;
            t.at = at;
            t.goods = goods;
            t.marks = marks.clone();
            return t;
        }
    }

    static final class House {
        int[] dust = new int[12];
        List<Tenant> tenants = new ArrayList<>();
        int fall = 3;
        int draught = 0;
        int day = 0;
        int z = 1;
        Integer[] spots = new Integer[10];

        House twin() {
            House h = new House();
            h.dust = dust.clone();
            tenants.forEach(t -> h.tenants.add(t.twin()));
            h.fall = fall;
            h.draught = draught;
            h.day = day;
            h.z = z;
            h.spots = spots.clone();
            return h;
        }

        int leaves(Tenant t, String as) {
            switch (as) {
                case "tenant": return 3;
                case "lord": return 2 * leaves(t, "tenant");
                case "heir": return leaves(t, "lord") + 1;
                case "maid": return leaves(t, "tenant") - 2;
                case "widow": return leaves(t, "maid") + (dust[t.at] >= 100 ? 4 : 0);
                case "bishop": return leaves(t, "widow") + t.goods / 1000;
                default: return 0;
            }
        }

        static int sweeps(String kind) {
            switch (kind) {
                case "tenant": return 0;
                case "lord": return sweeps("tenant");
                case "heir": return sweeps("lord") + 1;
                case "maid": return 20;
                case "widow": return sweeps("maid") / 2;
                case "bishop": return sweeps("widow");
                default: return 5;
            }
        }

        static int keeps(String kind, int swept) {
            switch (kind) {
                case "bishop": return swept;
                case "widow": return swept / 2;
                case "tenant": return 0;
                default: return keeps(above(kind), swept);
            }
        }

        static String above(String kind) {
            switch (kind) {
                case "lord": case "maid": case "cat": return "tenant";
                case "widow": return "maid";
                case "bishop": return "widow";
                case "heir": return "lord";
                default: return null;
            }
        }

        int holder(int s) {
            int most = tenants.stream().mapToInt(t -> t.marks[s]).max().orElse(0);
            for (int i = 0; i < tenants.size() && most > 0; i++) {
                if (tenants.get(i).marks[s] == most) return i;
            }
            return -1;
        }

        int[] holders() {
            int[] all = new int[12];
            Arrays.setAll(all, this::holder);
            return all;
        }

        int allDust() {
            return Arrays.stream(dust).sum();
        }

        int allGoods() {
            return tenants.stream().mapToInt(t -> t.goods).sum();
        }

        void day(int notSweeping) {
            int[] was = dust.clone();
            for (int s = 0; s < 12; s++) {
                int to = ((s + draught) % 12 + 12) % 12;
                dust[s] -= was[s] / 10;
                dust[to] += was[s] / 10;
            }
            for (int s = 0; s < 12; s++) dust[s] = Math.min(9999, Math.min(9999, dust[s]) + fall);
            for (int i = 0; i < tenants.size(); i++) {
                Tenant t = tenants.get(i);
                if ((notSweeping & 1 << i) != 0) continue;
                int swept = Math.min(sweeps(t.kind), dust[t.at]);
                dust[t.at] -= swept;
                t.goods = Math.min(99999, t.goods + keeps(t.kind, swept));
            }
            for (Tenant t : tenants) {
                t.marks[t.at] = Math.min(99, t.marks[t.at] + leaves(t, t.kind));
                for (Tenant o : tenants) {
                    if (o != t) o.marks[t.at] = Math.max(0, o.marks[t.at] - 1);
                }
            }
            for (int s = 0; s < 12; s++) {
                if (holder(s) < 0) continue;
                Tenant t = tenants.get(holder(s));
                t.goods = Math.min(99999, t.goods + dust[s] / 20);
            }
            day = Math.min(99999, day + 1);
        }

        House behind(int n, int notSweeping) {
            House h = twin();
            for (int i = 0; i < n; i++) h.day(notSweeping);
            return h;
        }

        House behind(int n) {
            return behind(n, 0);
        }

        House with(Consumer<House> change) {
            House h = twin();
            change.accept(h);
            return h;
        }

        void sneeze(int s, int n) {
            int went = dust[s];
            dust[s] = 0;
            int to = ((s + n) % 12 + 12) % 12;
            dust[to] = Math.min(9999, dust[to] + went);
        }
    }

    House h = new House();
    House kept;
    final List<Integer> tape = new ArrayList<>();
    final int[][] sheets = new int[4][];
    final int[] bits = new int[4];
    final int[] told = new int[7];

    private int tell(int finding) {
        told[BEYOND - finding]++;
        return finding;
    }

    private static boolean in(int v, int least, int most) {
        return least <= v && v <= most;
    }

    private boolean sits(int t) {
        return in(t, 0, h.tenants.size() - 1);
    }

    public int dust(int s, int v) {
        if (!in(s, 0, 11) || !in(v, 0, 9999)) return tell(BEYOND);
        int was = h.dust[s];
        h.dust[s] = v;
        return was;
    }

    public int surface(int s, int what) {
        if (!in(s, 0, 11) || !in(what, 0, 3)) return tell(BEYOND);
        if (what == 0) return h.dust[s];
        if (what == 1) return h.holder(s);
        if (what == 3) return h.tenants.stream().mapToInt(t -> t.marks[s]).max().orElse(0);
        int set = 0;
        for (int t = 0; t < h.tenants.size(); t++) if (h.tenants.get(t).at == s) set += 1 << t;
        return set;
    }

    public int law(int what, int v) {
        int was = what == 0 ? h.fall : h.draught;
        if (what == 0 && in(v, 0, 99)) h.fall = v;
        else if (what == 1 && in(v, -3, 3)) h.draught = v;
        else return tell(BEYOND);
        return was;
    }

    public int tenant(int kind, int s) {
        if (!in(kind, 0, 6) || !in(s, 0, 11)) return tell(BEYOND);
        if (h.tenants.size() == 8) return tell(FULL);
        Tenant t = new Tenant();
        t.kind = NAMES.get(kind);
        t.at = s;
        h.tenants.add(t);
        return h.tenants.size() - 1;
    }

    public int of(int tenant, int what) {
        if (!sits(tenant) || !in(what, 0, 6)) return tell(BEYOND);
        Tenant t = h.tenants.get(tenant);
        int held = 0;
        for (int s = 0; s < 12; s++) if (h.holder(s) == tenant) held += 1 << s;
        return new int[] {NAMES.indexOf(t.kind), t.at, t.goods, h.leaves(t, t.kind), House.sweeps(t.kind), held,
            Arrays.stream(t.marks).sum()}[what];
    }

    public int change(int tenant, int what, int v) {
        if (!sits(tenant) || !in(what, 0, 2) || !in(v, 0, new int[] {6, 11, 99999}[what])) return tell(BEYOND);
        int was = of(tenant, what);
        Tenant t = h.tenants.get(tenant);
        if (what == 0) t.kind = NAMES.get(v);
        if (what == 1) t.at = v;
        if (what == 2) t.goods = v;
        return was;
    }

    public int mark(int tenant, int s) {
        return sits(tenant) && in(s, 0, 11) ? h.tenants.get(tenant).marks[s] : tell(BEYOND);
    }

    public int charter(int tenant, int s, int v) {
        if (!sits(tenant) || !in(s, 0, 11) || !in(v, 0, 99)) return tell(BEYOND);
        int was = h.tenants.get(tenant).marks[s];
        h.tenants.get(tenant).marks[s] = v;
        return was;
    }

    private static void exchange(House h, int a, int b) {
        int was = h.tenants.get(a).at;
        h.tenants.get(a).at = h.tenants.get(b).at;
        h.tenants.get(b).at = was;
    }

    public int swap(int a, int b) {
        if (!sits(a) || !sits(b) || a == b) return tell(BEYOND);
        boolean same = h.tenants.get(a).at == h.tenants.get(b).at;
        exchange(h, a, b);
        return same ? 0 : 1;
    }

    public int sneeze(int s, int n) {
        if (!in(s, 0, 11) || !in(n, -11, 11)) return tell(BEYOND);
        int went = h.dust[s];
        h.sneeze(s, n);
        return went;
    }

    public int go(int n) {
        if (!in(n, 1, 40)) return tell(BEYOND);
        if (h.day + n > 99999) return tell(STATE);
        h = h.behind(n);
        return h.allDust();
    }

    public int now(int what) {
        if (!in(what, 0, 5)) return tell(BEYOND);
        int held = 0;
        int none = 0;
        int rich = -1;
        for (int s = 0; s < 12; s++) if (h.holder(s) >= 0) held += 1 << s;
        for (int t = 0; t < h.tenants.size(); t++) {
            if (of(t, 5) == 0) none += 1 << t;
            if (rich < 0 || of(t, 2) > of(rich, 2)) rich = t;
        }
        return new int[] {h.day, h.allDust(), h.allGoods(), held, none, rich}[what];
    }

    public int ahead(int s, int n) {
        return in(s, 0, 11) && in(n, 0, 60) ? h.behind(n).dust[s] : tell(BEYOND);
    }

    public int goods(int tenant, int n) {
        return sits(tenant) && in(n, 0, 60) ? h.behind(n).tenants.get(tenant).goods : tell(BEYOND);
    }

    public int holder(int s, int n) {
        return in(s, 0, 11) && in(n, 0, 60) ? h.behind(n).holder(s) : tell(BEYOND);
    }

    public int when(int tenant, int s) {
        if (!sits(tenant) || !in(s, 0, 11)) return tell(BEYOND);
        for (int n = 0; n <= 60; n++) if (h.behind(n).holder(s) == tenant) return n;
        return tell(NONE);
    }

    public int clash() {
        for (int n = 1; n <= 60; n++) if (!Arrays.equals(h.behind(n).holders(), h.holders())) return n;
        return tell(NONE);
    }

    public int rich(int tenant, int v) {
        if (!sits(tenant) || !in(v, 0, 99999)) return tell(BEYOND);
        for (int n = 0; n <= 60; n++) if (h.behind(n).tenants.get(tenant).goods >= v) return n;
        return tell(NONE);
    }

    private static int best(int from, int to, int except, ToIntFunction<Integer> worth) {
        int best = Integer.MIN_VALUE;
        for (int v = to; v >= from; v--) {
            if (v == except) continue;
            if (best == Integer.MIN_VALUE || worth.applyAsInt(v) >= worth.applyAsInt(best)) best = v;
        }
        return best;
    }

    private int had(int tenant, int n, Consumer<House> change) {
        return h.with(change).behind(n).tenants.get(tenant).goods;
    }

    public int seat(int tenant, int n) {
        if (!sits(tenant) || !in(n, 0, 40)) return tell(BEYOND);
        return best(0, 11, -9, v -> had(tenant, n, o -> o.tenants.get(tenant).at = v));
    }

    public int kindFor(int tenant, int n) {
        if (!sits(tenant) || !in(n, 0, 40)) return tell(BEYOND);
        return best(0, 6, -9, v -> had(tenant, n, o -> o.tenants.get(tenant).kind = NAMES.get(v)));
    }

    public int draught(int tenant, int n) {
        if (!sits(tenant) || !in(n, 0, 40)) return tell(BEYOND);
        return best(-3, 3, -9, v -> had(tenant, n, o -> o.draught = v));
    }

    public int fallFor(int v, int n) {
        if (!in(v, 0, 99999) || !in(n, 0, 40)) return tell(BEYOND);
        for (int f = 0; f <= 99; f++) {
            int fall = f;
            if (h.with(o -> o.fall = fall).behind(n).allDust() >= v) return f;
        }
        return tell(NONE);
    }

    public int swapFor(int tenant, int n) {
        if (!sits(tenant) || !in(n, 0, 40)) return tell(BEYOND);
        if (h.tenants.size() == 1) return tell(NONE);
        return best(0, h.tenants.size() - 1, tenant, v -> had(tenant, n, o -> exchange(o, tenant, v)));
    }

    public int brooms(int v, int n) {
        if (!in(v, 0, 99999) || !in(n, 0, 20)) return tell(BEYOND);
        int best = -1;
        for (int set = 0; set < 1 << h.tenants.size(); set++) {
            if (h.behind(n, ~set).allDust() > v) continue;
            if (best < 0 || Integer.bitCount(set) < Integer.bitCount(best)) best = set;
        }
        return best < 0 ? tell(NONE) : best;
    }

    public int without(int n) {
        if (!in(n, 0, 40)) return tell(BEYOND);
        if (h.tenants.isEmpty()) return tell(NONE);
        return best(0, h.tenants.size() - 1, -9, t -> h.behind(n, 1 << t).allDust());
    }

    private boolean like(House from, int[] sheet, int tenant) {
        for (int i = 0; i < sheet.length; i++) {
            if (sheet[i] != -1 && from.behind(i).tenants.get(tenant).goods != sheet[i]) return false;
        }
        return true;
    }

    public int fits(int s, int tenant) {
        if (!in(s, 0, 3)) return tell(BEYOND);
        if (sheets[s] == null) return tell(MISSING);
        if (!sits(tenant)) return tell(BEYOND);
        int set = 0;
        for (int v = 0; v < 12; v++) {
            int place = v;
            if (like(h.with(o -> o.tenants.get(tenant).at = place), sheets[s], tenant)) set += 1 << v;
        }
        return set;
    }

    public int kinds(int s, int tenant) {
        if (!in(s, 0, 3)) return tell(BEYOND);
        if (sheets[s] == null) return tell(MISSING);
        if (!sits(tenant)) return tell(BEYOND);
        int set = 0;
        for (int v = 0; v < 7; v++) {
            int kind = v;
            if (like(h.with(o -> o.tenants.get(tenant).kind = NAMES.get(kind)), sheets[s], tenant)) set += 1 << v;
        }
        return set;
    }

    public int sneezes(int n) {
        if (!in(n, 1, 20)) return tell(BEYOND);
        if (h.day + n > 99999) return tell(STATE);
        for (int i = 0; i < n; i++) {
            h.z = h.z * 1103515245 + 12345;
            h.sneeze((h.z >>> 8) % 12, 1);
            h.day(0);
        }
        return h.allDust();
    }

    public long odds(int n, int what) {
        if (!in(n, 0, 14) || !in(what, 0, 1)) return tell(BEYOND);
        long above = 1;
        long below = 1;
        for (int i = 0; i < n; i++) {
            above *= Arrays.stream(h.holders()).filter(t -> t < 0).count();
            below *= 12;
        }
        long a = above;
        long b = below;
        while (b != 0) {
            long rest = a % b;
            a = b;
            b = rest;
        }
        return (what == 0 ? above : below) / a;
    }

    public int seed(int v) {
        int was = h.z;
        h.z = v;
        return was;
    }

    public int feed(int bytes, int n) {
        if (!in(n, 1, 4)) return tell(BEYOND);
        if (tape.size() + n > 120) return tell(FULL);
        int[] four = {bytes >>> 24, bytes >> 16 & 255, bytes >> 8 & 255, bytes & 255};
        for (int i = 4 - n; i < 4; i++) tape.add(four[i]);
        return tape.size();
    }

    public int wipe() {
        int had = tape.size();
        tape.clear();
        return had;
    }

    private static final Pattern TOKEN = Pattern.compile(" *([a-z]+|[0-9]+|[^ ]|$)", Pattern.DOTALL);

    private static final class Fault extends RuntimeException {
        private static final long serialVersionUID = 1L;
    }

    private static final class Tokens {
        final Matcher matcher;
        String word;

        Tokens(String text) {
            matcher = TOKEN.matcher(text);
            step();
        }

        void step() {
            if (!matcher.find()) throw new IllegalStateException();
            word = matcher.group(1);
        }

        boolean takes(String wanted) {
            if (!word.equals(wanted)) return false;
            step();
            return true;
        }

        int number(int most) {
            if (!word.matches("0*[0-9]{1,4}") || Integer.parseInt(word.replaceAll("^0*(?=.)", "")) > most) throw new Fault();
            int v = Integer.parseInt(word);
            step();
            return v;
        }
    }

    private static void item(House to, Tokens in) {
        if (NAMES.contains(in.word)) {
            if (to.tenants.size() == 8) throw new Fault();
            Tenant t = new Tenant();
            t.kind = in.word;
            in.step();
            t.at = in.takes("at") ? in.number(11) : 0;
            t.goods = in.takes("goods") ? in.number(9999) : 0;
            t.marks[t.at] = in.takes("marks") ? in.number(99) : 0;
            to.tenants.add(t);
        } else if (in.takes("dust")) {
            int s = in.number(11);
            to.dust[s] = in.number(9999);
        } else if (in.takes("fall")) {
            to.fall = in.number(99);
        } else if (in.takes("draught")) {
            to.draught = in.takes("-") ? -in.number(3) : in.number(3);
        } else {
            throw new Fault();
        }
    }

    public int text() {
        StringBuilder text = new StringBuilder();
        tape.forEach(b -> text.append((char) (int) b));
        tape.clear();
        House to = h.twin();
        Tokens in = new Tokens(text.toString());
        int items = 0;
        try {
            do {
                item(to, in);
                items++;
            } while (in.takes(";"));
            if (!in.word.isEmpty()) throw new Fault();
        } catch (Fault fault) {
            return -1 - in.matcher.start(1);
        }
        h = to;
        return items;
    }

    public int hold(int spot, int tenant) {
        if (!in(spot, 0, 9) || tenant != -1 && !sits(tenant)) return tell(BEYOND);
        h.spots[spot] = tenant == -1 ? null : tenant;
        return 1;
    }

    public int as(int spot, int kind) {
        if (!in(spot, 0, 9) || !in(kind, 0, 6)) return tell(BEYOND);
        if (h.spots[spot] == null) return tell(MISSING);
        for (String k = h.tenants.get(h.spots[spot]).kind; k != null; k = House.above(k)) {
            if (k.equals(NAMES.get(kind))) return h.spots[spot];
        }
        return tell(KIND);
    }

    public int sheet(int s, int b, int n) {
        if (!in(s, 0, 3) || !List.of(0, 8, 16, 32).contains(b)) return tell(BEYOND);
        if (n < 0) return tell(SIZE);
        if (n > 40) return tell(BEYOND);
        bits[s] = b;
        sheets[s] = b == 0 ? null : new int[n];
        return b == 0 ? 0 : n;
    }

    public int write(int s, int i, int v) {
        if (!in(s, 0, 3)) return tell(BEYOND);
        if (sheets[s] == null) return tell(MISSING);
        if (!in(i, 0, sheets[s].length - 1)) return tell(BEYOND);
        sheets[s][i] = bits[s] == 8 ? (byte) v : bits[s] == 16 ? (short) v : v;
        return 1;
    }

    public int copy(int s, int from, int t, int to, int n) {
        if (!in(s, 0, 3) || !in(t, 0, 3)) return tell(BEYOND);
        if (sheets[s] == null || sheets[t] == null) return tell(MISSING);
        if (bits[s] != bits[t]) return tell(KIND);
        if (from < 0 || to < 0 || n < 0) return tell(BEYOND);
        if ((long) from + n > sheets[s].length || (long) to + n > sheets[t].length) return tell(BEYOND);
        int[] were = Arrays.copyOfRange(sheets[s], from, from + n);
        for (int i = 0; i < n; i++) sheets[t][to + i] = were[i];
        return n;
    }

    public int load(int s) {
        if (!in(s, 0, 3)) return tell(BEYOND);
        if (sheets[s] == null) return tell(MISSING);
        int came = 0;
        for (int v : sheets[s]) {
            if (came == 12 || !in(v, 0, 9999)) break;
            h.dust[came++] = v;
        }
        return came;
    }

    public int judge(int s) {
        if (!in(s, 0, 3)) return tell(BEYOND);
        if (sheets[s] == null) return tell(MISSING);
        int[] due = h.holders();
        int unlike = Arrays.mismatch(sheets[s], due);
        return unlike < 0 || unlike == sheets[s].length ? 0 : 1 + unlike;
    }

    public int image() {
        kept = h.twin();
        return 1;
    }

    public int undo() {
        if (kept == null) return tell(NONE);
        h = kept.twin();
        return h.day;
    }

    public int tear() {
        int was = kept == null ? 0 : 1;
        kept = null;
        return was;
    }

    public int count(int what) {
        if (!in(what, 0, 7)) return tell(BEYOND);
        int held = (int) Arrays.stream(h.holders()).filter(t -> t >= 0).count();
        int used = (int) Arrays.stream(h.spots).filter(t -> t != null).count();
        return new int[] {h.day, h.tenants.size(), held, h.allDust(), h.allGoods(), tape.size(), h.z, used}[what];
    }

    public int status(int which) {
        if (!in(which, -1, 6)) return tell(BEYOND);
        return which < 0 ? Arrays.stream(told).sum() : told[which];
    }
}
