/** Dust is land: a room of surfaces, the dust on them, and the tenants who claim it. */
public final class DustLand {
    private static final int LOW = -1000001;
    private static final int BEYOND = 0;
    private static final int FULL = 1;
    private static final int KIND = 2;
    private static final int NONE = 3;
    private static final int STATE = 4;
    private static final int MISSING = 5;
    private static final int SIZE = 6;
    private static final int FINDINGS = 7;

    private static final int SURFACES = 12;
    private static final int MOST_TENANTS = 8;
    private static final int SPOTS = 10;
    private static final int SHEETS = 4;
    private static final int MOST_NUMBERS = 40;
    private static final int MOST_BYTES = 120;

    private static final int MOST_DUST = 9999;
    private static final int MOST_FALL = 99;
    private static final int MOST_DRAUGHT = 3;
    private static final int MOST_GOODS = 99999;
    private static final int MOST_MARK = 99;
    private static final int MOST_DAY = 99999;
    /** The greatest number in a text. */
    private static final int MOST_TOLD = 9999;
    /** The greatest dust of all together that can be asked for. */
    private static final int MOST_SOUGHT = 99999;

    private static final int FAR_DAYS = 60;
    private static final int NEAR_DAYS = 40;
    private static final int BROOM_DAYS = 20;
    private static final int MOST_SNEEZES = 20;
    private static final int MOST_ODDS = 14;

    private static final int NOBODY = -1;
    private static final int ANY = -1;
    private static final int EVERYBODY = (1 << MOST_TENANTS) - 1;
    private static final int ALL_SURFACES = (1 << SURFACES) - 1;

    /** What of a tenant or for it is tried out. */
    private static final int BY_SEAT = 0;
    private static final int BY_KIND = 1;
    private static final int BY_DRAUGHT = 2;
    private static final int BY_SWAP = 3;

    private static final int WIDOW = 3;
    private static final int BISHOP = 4;
    private static final int KINDS = 7;
    /** By kinds: tenant, lord, maid, widow, bishop, cat, heir; the root has none above it. */
    private static final int[] ABOVE = {-1, 0, 0, 2, 3, 0, 1};
    private static final int[] LEAVES = {3, 6, 1, 1, 1, 0, 7};
    private static final int[] SWEEPS = {0, 0, 20, 10, 10, 5, 1};

    private final Room room;
    /** What would be is tried out here, so that asking changes nothing. */
    private final Room trial;
    private final Room kept;
    private boolean isKept;
    private final Tape tape;
    private final TextReader reader;
    private final Sheet[] sheets;
    private final int[] findings;

    public DustLand() {
        room = new Room();
        trial = new Room();
        kept = new Room();
        isKept = false;
        tape = new Tape();
        reader = new TextReader();
        sheets = new Sheet[SHEETS];
        for (int s = 0; s < SHEETS; s++) {
            sheets[s] = new Sheet();
        }
        findings = new int[FINDINGS];
    }

    // ---- surfaces, tenants

    public int dust(int surface, int v) {
        if (!isSurface(surface) || !isWithin(v, 0, MOST_DUST)) {
            return finding(BEYOND);
        }
        int was = room.dust[surface];
        room.dust[surface] = v;
        return was;
    }

    public int surface(int surface, int what) {
        if (!isSurface(surface)) {
            return finding(BEYOND);
        }
        switch (what) {
            case 0: return room.dust[surface];
            case 1: return room.holderOf(surface);
            case 2: return room.sittersAt(surface);
            case 3: return room.greatestMark(surface);
            default: return finding(BEYOND);
        }
    }

    public int law(int what, int v) {
        if (what == 0 && isWithin(v, 0, MOST_FALL)) {
            int was = room.fall;
            room.fall = v;
            return was;
        }
        if (what == 1 && isWithin(v, -MOST_DRAUGHT, MOST_DRAUGHT)) {
            int was = room.wind;
            room.wind = v;
            return was;
        }
        return finding(BEYOND);
    }

    public int tenant(int kind, int surface) {
        if (!isKind(kind) || !isSurface(surface)) {
            return finding(BEYOND);
        }
        if (room.tenants >= MOST_TENANTS) {
            return finding(FULL);
        }
        return room.addTenant(kind, surface);
    }

    public int of(int tenant, int what) {
        if (!isTenant(tenant)) {
            return finding(BEYOND);
        }
        switch (what) {
            case 0: return room.kind[tenant];
            case 1: return room.at[tenant];
            case 2: return room.goods[tenant];
            case 3: return room.leavesOf(tenant);
            case 4: return SWEEPS[room.kind[tenant]];
            case 5: return room.heldBy(tenant);
            case 6: return room.marksOf(tenant);
            default: return finding(BEYOND);
        }
    }

    public int change(int tenant, int what, int v) {
        if (!isTenant(tenant)) {
            return finding(BEYOND);
        }
        if (what == 0 && isKind(v)) {
            return put(room.kind, tenant, v);
        }
        if (what == 1 && isSurface(v)) {
            return put(room.at, tenant, v);
        }
        if (what == 2 && isWithin(v, 0, MOST_GOODS)) {
            return put(room.goods, tenant, v);
        }
        return finding(BEYOND);
    }

    public int mark(int tenant, int surface) {
        if (!isTenant(tenant) || !isSurface(surface)) {
            return finding(BEYOND);
        }
        return room.marks[tenant * SURFACES + surface];
    }

    public int charter(int tenant, int surface, int v) {
        if (!isTenant(tenant) || !isSurface(surface) || !isWithin(v, 0, MOST_MARK)) {
            return finding(BEYOND);
        }
        return put(room.marks, tenant * SURFACES + surface, v);
    }

    public int swap(int a, int b) {
        if (!isTenant(a) || !isTenant(b) || a == b) {
            return finding(BEYOND);
        }
        if (room.at[a] == room.at[b]) {
            return 0;
        }
        room.changePlaces(a, b);
        return 1;
    }

    public int sneeze(int surface, int n) {
        if (!isSurface(surface) || !isWithin(n, 1 - SURFACES, SURFACES - 1)) {
            return finding(BEYOND);
        }
        return room.blowAway(surface, n);
    }

    // ---- days

    public int go(int n) {
        if (!isWithin(n, 1, NEAR_DAYS)) {
            return finding(BEYOND);
        }
        if (room.day > MOST_DAY - n) {
            return finding(STATE);
        }
        room.passDays(n);
        return room.allDust();
    }

    public int now(int what) {
        switch (what) {
            case 0: return room.day;
            case 1: return room.allDust();
            case 2: return room.allGoods();
            case 3: return room.heldSurfaces();
            case 4: return room.landless();
            case 5: return room.richest();
            default: return finding(BEYOND);
        }
    }

    // ---- what will be

    public int ahead(int surface, int n) {
        if (!isSurface(surface) || !isWithin(n, 0, FAR_DAYS)) {
            return finding(BEYOND);
        }
        trial.become(room);
        trial.settleDays(n, EVERYBODY);
        return trial.dust[surface];
    }

    public int goods(int tenant, int n) {
        if (!isTenant(tenant) || !isWithin(n, 0, FAR_DAYS)) {
            return finding(BEYOND);
        }
        trial.become(room);
        trial.passDays(n);
        return trial.goods[tenant];
    }

    public int holder(int surface, int n) {
        if (!isSurface(surface) || !isWithin(n, 0, FAR_DAYS)) {
            return finding(BEYOND);
        }
        trial.become(room);
        trial.passDays(n);
        return trial.holderOf(surface);
    }

    public int when(int tenant, int surface) {
        if (!isTenant(tenant) || !isSurface(surface)) {
            return finding(BEYOND);
        }
        trial.become(room);
        for (int n = 0; n <= FAR_DAYS; n++) {
            if (trial.holderOf(surface) == tenant) {
                return n;
            }
            trial.passDay();
        }
        return finding(NONE);
    }

    public int clash() {
        trial.become(room);
        for (int n = 1; n <= FAR_DAYS; n++) {
            trial.passDay();
            if (!trial.isHeldLike(room)) {
                return n;
            }
        }
        return finding(NONE);
    }

    public int rich(int tenant, int v) {
        if (!isTenant(tenant) || !isWithin(v, 0, MOST_GOODS)) {
            return finding(BEYOND);
        }
        trial.become(room);
        for (int n = 0; n <= FAR_DAYS; n++) {
            if (trial.goods[tenant] >= v) {
                return n;
            }
            trial.passDay();
        }
        return finding(NONE);
    }

    // ---- where, as what, by what

    public int seat(int tenant, int n) {
        if (!isTenant(tenant) || !isWithin(n, 0, NEAR_DAYS)) {
            return finding(BEYOND);
        }
        return bestFor(tenant, n, BY_SEAT, 0, SURFACES - 1);
    }

    public int kindFor(int tenant, int n) {
        if (!isTenant(tenant) || !isWithin(n, 0, NEAR_DAYS)) {
            return finding(BEYOND);
        }
        return bestFor(tenant, n, BY_KIND, 0, KINDS - 1);
    }

    public int draught(int tenant, int n) {
        if (!isTenant(tenant) || !isWithin(n, 0, NEAR_DAYS)) {
            return finding(BEYOND);
        }
        return bestFor(tenant, n, BY_DRAUGHT, -MOST_DRAUGHT, MOST_DRAUGHT);
    }

    public int fallFor(int v, int n) {
        if (!isWithin(v, 0, MOST_SOUGHT) || !isWithin(n, 0, NEAR_DAYS)) {
            return finding(BEYOND);
        }
        // More fall never ends in less dust, so the greatest fall that is too little can be halved for.
        int tooLittle = -1;
        for (int step = 64; step > 0; step /= 2) {
            int fall = tooLittle + step;
            if (fall <= MOST_FALL && dustWithFall(fall, n) < v) {
                tooLittle = fall;
            }
        }
        return tooLittle == MOST_FALL ? finding(NONE) : tooLittle + 1;
    }

    public int swapFor(int tenant, int n) {
        if (!isTenant(tenant) || !isWithin(n, 0, NEAR_DAYS)) {
            return finding(BEYOND);
        }
        if (room.tenants < 2) {
            return finding(NONE);
        }
        return bestFor(tenant, n, BY_SWAP, 0, room.tenants - 1);
    }

    // ---- brooms

    public int brooms(int v, int n) {
        if (!isWithin(v, 0, MOST_SOUGHT) || !isWithin(n, 0, BROOM_DAYS)) {
            return finding(BEYOND);
        }
        int all = (1 << room.tenants) - 1;
        // One broom more never ends in more dust: what all together can't do, no set can.
        if (dustSweptBy(all, n) > v) {
            return finding(NONE);
        }
        for (int size = 0; size < room.tenants; size++) {
            for (int set = 0; set < all; set++) {
                if (Integer.bitCount(set) == size && dustSweptBy(set, n) <= v) {
                    return set;
                }
            }
        }
        return all;
    }

    public int without(int n) {
        if (!isWithin(n, 0, NEAR_DAYS)) {
            return finding(BEYOND);
        }
        if (room.tenants == 0) {
            return finding(NONE);
        }
        int best = 0;
        int most = -1;
        for (int t = 0; t < room.tenants; t++) {
            int dust = dustSweptBy(EVERYBODY & ~(1 << t), n);
            if (dust > most) {
                most = dust;
                best = t;
            }
        }
        return best;
    }

    // ---- what was told

    public int fits(int s, int tenant) {
        int refusal = refuseTold(s, tenant);
        return refusal != 0 ? refusal : allThatFit(s, tenant, BY_SEAT, SURFACES);
    }

    public int kinds(int s, int tenant) {
        int refusal = refuseTold(s, tenant);
        return refusal != 0 ? refusal : allThatFit(s, tenant, BY_KIND, KINDS);
    }

    // ---- sneezes

    public int sneezes(int n) {
        if (!isWithin(n, 1, MOST_SNEEZES)) {
            return finding(BEYOND);
        }
        if (room.day > MOST_DAY - n) {
            return finding(STATE);
        }
        for (int i = 0; i < n; i++) {
            room.blowAway(room.draw() % SURFACES, 1);
            room.passDay();
        }
        return room.allDust();
    }

    public long odds(int n, int what) {
        if (!isWithin(n, 0, MOST_ODDS) || !isWithin(what, 0, 1)) {
            return finding(BEYOND);
        }
        int free = SURFACES - Integer.bitCount(room.heldSurfaces());
        int divisor = greatestDivisor(free, SURFACES);
        // Powers of a fraction in lowest terms are in lowest terms too.
        int part = what == 0 ? free / divisor : SURFACES / divisor;
        long power = 1;
        for (int i = 0; i < n; i++) {
            power *= part;
        }
        return power;
    }

    public int seed(int v) {
        int was = room.z;
        room.z = v;
        return was;
    }

    // ---- texts

    public int feed(int bytes, int n) {
        if (!isWithin(n, 1, 4)) {
            return finding(BEYOND);
        }
        if (tape.length > MOST_BYTES - n) {
            return finding(FULL);
        }
        tape.append(bytes, n);
        return tape.length;
    }

    public int wipe() {
        int had = tape.length;
        tape.length = 0;
        return had;
    }

    public int text() {
        reader.split(tape);
        tape.length = 0;
        trial.become(room);
        int answer = reader.readInto(trial);
        // A text with a fault has changed the trial alone.
        if (answer >= 0) {
            room.become(trial);
        }
        return answer;
    }

    // ---- spots, sheets

    public int hold(int spot, int tenant) {
        if (!isSpot(spot) || (tenant != NOBODY && !isTenant(tenant))) {
            return finding(BEYOND);
        }
        room.spots[spot] = tenant;
        return 1;
    }

    public int as(int spot, int kind) {
        if (!isSpot(spot) || !isKind(kind)) {
            return finding(BEYOND);
        }
        int tenant = room.spots[spot];
        if (!isTenant(tenant)) {
            return finding(MISSING);
        }
        return isOfKind(room.kind[tenant], kind) ? tenant : finding(KIND);
    }

    public int sheet(int s, int bits, int n) {
        if (!isSheet(s) || (bits != 0 && bits != 8 && bits != 16 && bits != 32)) {
            return finding(BEYOND);
        }
        if (n < 0) {
            return finding(SIZE);
        }
        if (n > MOST_NUMBERS) {
            return finding(BEYOND);
        }
        return sheets[s].renew(bits, n);
    }

    public int write(int s, int i, int v) {
        if (!isSheet(s)) {
            return finding(BEYOND);
        }
        if (sheets[s].bits == 0) {
            return finding(MISSING);
        }
        if (!isWithin(i, 0, sheets[s].length - 1)) {
            return finding(BEYOND);
        }
        sheets[s].put(i, v);
        return 1;
    }

    public int copy(int s, int from, int t, int to, int n) {
        if (!isSheet(s) || !isSheet(t)) {
            return finding(BEYOND);
        }
        if (sheets[s].bits == 0 || sheets[t].bits == 0) {
            return finding(MISSING);
        }
        if (sheets[s].bits != sheets[t].bits) {
            return finding(KIND);
        }
        if (!sheets[s].has(from, n) || !sheets[t].has(to, n)) {
            return finding(BEYOND);
        }
        System.arraycopy(sheets[s].numbers, from, sheets[t].numbers, to, n);
        return n;
    }

    public int load(int s) {
        if (!isSheet(s)) {
            return finding(BEYOND);
        }
        Sheet from = sheets[s];
        if (from.bits == 0) {
            return finding(MISSING);
        }
        int came = 0;
        while (came < from.length && came < SURFACES && isWithin(from.numbers[came], 0, MOST_DUST)) {
            room.dust[came] = from.numbers[came];
            came++;
        }
        return came;
    }

    public int judge(int s) {
        if (!isSheet(s)) {
            return finding(BEYOND);
        }
        Sheet told = sheets[s];
        if (told.bits == 0) {
            return finding(MISSING);
        }
        for (int i = 0; i < told.length; i++) {
            if (i >= SURFACES || told.numbers[i] != room.holderOf(i)) {
                return 1 + i;
            }
        }
        return 0;
    }

    // ---- images

    public int image() {
        kept.become(room);
        isKept = true;
        return 1;
    }

    public int undo() {
        if (!isKept) {
            return finding(NONE);
        }
        room.become(kept);
        return room.day;
    }

    public int tear() {
        int was = isKept ? 1 : 0;
        isKept = false;
        return was;
    }

    public int count(int what) {
        switch (what) {
            case 0: return room.day;
            case 1: return room.tenants;
            case 2: return Integer.bitCount(room.heldSurfaces());
            case 3: return room.allDust();
            case 4: return room.allGoods();
            case 5: return tape.length;
            case 6: return room.z;
            case 7: return room.usedSpots();
            default: return finding(BEYOND);
        }
    }

    public int status(int which) {
        if (!isWithin(which, -1, FINDINGS - 1)) {
            return finding(BEYOND);
        }
        return which == -1 ? sumOf(findings) : findings[which];
    }

    // ---- what the calls share

    private int finding(int which) {
        findings[which]++;
        return LOW - which;
    }

    private static boolean isWithin(int v, int least, int most) {
        return v >= least && v <= most;
    }

    private static boolean isSurface(int surface) {
        return surface >= 0 && surface < SURFACES;
    }

    private static boolean isKind(int kind) {
        return kind >= 0 && kind < KINDS;
    }

    private static boolean isSpot(int spot) {
        return spot >= 0 && spot < SPOTS;
    }

    private static boolean isSheet(int s) {
        return s >= 0 && s < SHEETS;
    }

    private boolean isTenant(int tenant) {
        return tenant >= 0 && tenant < room.tenants;
    }

    private static int put(int[] row, int i, int v) {
        int was = row[i];
        row[i] = v;
        return was;
    }

    private static int sumOf(int[] row) {
        int sum = 0;
        for (int v : row) {
            sum += v;
        }
        return sum;
    }

    private static boolean isOfKind(int kind, int wanted) {
        int k = kind;
        for (int step = 0; step < KINDS && isKind(k); step++) {
            if (k == wanted) {
                return true;
            }
            k = ABOVE[k];
        }
        return false;
    }

    /** Of 0 to 12 and 12: the answer is never 0, so it may divide. */
    private static int greatestDivisor(int free, int all) {
        int divisor = all;
        while (divisor > 1 && (free % divisor != 0 || all % divisor != 0)) {
            divisor--;
        }
        return divisor;
    }

    private void tryOut(int tenant, int way, int choice) {
        trial.become(room);
        switch (way) {
            case BY_SEAT:
                trial.at[tenant] = choice;
                break;
            case BY_KIND:
                trial.kind[tenant] = choice;
                break;
            case BY_DRAUGHT:
                trial.wind = choice;
                break;
            default:
                trial.changePlaces(tenant, choice);
        }
    }

    /** The least choice by which a tenant has most goods behind n days. */
    private int bestFor(int tenant, int n, int way, int first, int last) {
        int best = first;
        int most = -1;
        for (int choice = first; choice <= last; choice++) {
            if (way == BY_SWAP && choice == tenant) {
                continue;
            }
            tryOut(tenant, way, choice);
            trial.passDays(n);
            if (trial.goods[tenant] > most) {
                most = trial.goods[tenant];
                best = choice;
            }
        }
        return best;
    }

    private int dustWithFall(int fall, int n) {
        trial.become(room);
        trial.fall = fall;
        trial.settleDays(n, EVERYBODY);
        return trial.allDust();
    }

    private int dustSweptBy(int sweepers, int n) {
        trial.become(room);
        trial.settleDays(n, sweepers);
        return trial.allDust();
    }

    /** The finding of fits and kinds, 0 if there is none. */
    private int refuseTold(int s, int tenant) {
        if (!isSheet(s)) {
            return finding(BEYOND);
        }
        if (sheets[s].bits == 0) {
            return finding(MISSING);
        }
        return isTenant(tenant) ? 0 : finding(BEYOND);
    }

    private int allThatFit(int s, int tenant, int way, int choices) {
        int set = 0;
        for (int choice = 0; choice < choices; choice++) {
            tryOut(tenant, way, choice);
            if (hasGoodsAsTold(tenant, sheets[s])) {
                set |= 1 << choice;
            }
        }
        return set;
    }

    private boolean hasGoodsAsTold(int tenant, Sheet told) {
        for (int i = 0; i < told.length; i++) {
            if (i > 0) {
                trial.passDay();
            }
            int v = told.numbers[i];
            if (v != ANY && v != trial.goods[tenant]) {
                return false;
            }
        }
        return true;
    }

    /** All that an image keeps; whoever calls it has looked at its numbers before. */
    private static final class Room {
        final int[] dust = new int[SURFACES];
        /** Dust under way: a row of its own, as all of it goes at once. */
        final int[] blown = new int[SURFACES];
        final int[] kind = new int[MOST_TENANTS];
        final int[] at = new int[MOST_TENANTS];
        final int[] goods = new int[MOST_TENANTS];
        /** Tenant by tenant, a row of surfaces each. */
        final int[] marks = new int[MOST_TENANTS * SURFACES];
        final int[] spots = new int[SPOTS];
        int tenants;
        int fall;
        int wind;
        int day;
        int z;

        Room() {
            for (int i = 0; i < SPOTS; i++) {
                spots[i] = NOBODY;
            }
            fall = 3;
            z = 1;
        }

        void become(Room other) {
            System.arraycopy(other.dust, 0, dust, 0, SURFACES);
            System.arraycopy(other.kind, 0, kind, 0, MOST_TENANTS);
            System.arraycopy(other.at, 0, at, 0, MOST_TENANTS);
            System.arraycopy(other.goods, 0, goods, 0, MOST_TENANTS);
            System.arraycopy(other.marks, 0, marks, 0, MOST_TENANTS * SURFACES);
            System.arraycopy(other.spots, 0, spots, 0, SPOTS);
            tenants = other.tenants;
            fall = other.fall;
            wind = other.wind;
            day = other.day;
            z = other.z;
        }

        int addTenant(int newKind, int surface) {
            int t = tenants;
            kind[t] = newKind;
            at[t] = surface;
            goods[t] = 0;
            for (int s = 0; s < SURFACES; s++) {
                marks[t * SURFACES + s] = 0;
            }
            tenants++;
            return t;
        }

        void changePlaces(int a, int b) {
            int was = at[a];
            at[a] = at[b];
            at[b] = was;
        }

        int blowAway(int surface, int steps) {
            int went = dust[surface];
            int to = Math.floorMod(surface + steps, SURFACES);
            // Emptied first: no step at all leads back to the same surface.
            dust[surface] = 0;
            dust[to] = Math.min(MOST_DUST, dust[to] + went);
            return went;
        }

        int draw() {
            z = z * 1103515245 + 12345;
            return z >>> 8;
        }

        int holderOf(int surface) {
            int best = NOBODY;
            int most = 0;
            for (int t = 0; t < tenants; t++) {
                int mark = marks[t * SURFACES + surface];
                if (mark > most) {
                    most = mark;
                    best = t;
                }
            }
            return best;
        }

        int greatestMark(int surface) {
            int holder = holderOf(surface);
            return holder == NOBODY ? 0 : marks[holder * SURFACES + surface];
        }

        int sittersAt(int surface) {
            int set = 0;
            for (int t = 0; t < tenants; t++) {
                if (at[t] == surface) {
                    set |= 1 << t;
                }
            }
            return set;
        }

        int heldBy(int tenant) {
            int set = 0;
            for (int s = 0; s < SURFACES; s++) {
                if (holderOf(s) == tenant) {
                    set |= 1 << s;
                }
            }
            return set;
        }

        int heldSurfaces() {
            return ALL_SURFACES & ~heldBy(NOBODY);
        }

        int landless() {
            int set = (1 << tenants) - 1;
            for (int s = 0; s < SURFACES; s++) {
                int holder = holderOf(s);
                if (holder != NOBODY) {
                    set &= ~(1 << holder);
                }
            }
            return set;
        }

        boolean isHeldLike(Room other) {
            for (int s = 0; s < SURFACES; s++) {
                if (holderOf(s) != other.holderOf(s)) {
                    return false;
                }
            }
            return true;
        }

        int marksOf(int tenant) {
            int sum = 0;
            for (int s = 0; s < SURFACES; s++) {
                sum += marks[tenant * SURFACES + s];
            }
            return sum;
        }

        int richest() {
            int best = NOBODY;
            for (int t = 0; t < tenants; t++) {
                if (best == NOBODY || goods[t] > goods[best]) {
                    best = t;
                }
            }
            return best;
        }

        int allDust() {
            return sumOf(dust);
        }

        int allGoods() {
            int sum = 0;
            for (int t = 0; t < tenants; t++) {
                sum += goods[t];
            }
            return sum;
        }

        int usedSpots() {
            int used = 0;
            for (int tenant : spots) {
                if (tenant != NOBODY) {
                    used++;
                }
            }
            return used;
        }

        int leavesOf(int tenant) {
            int k = kind[tenant];
            int leaves = LEAVES[k];
            if ((k == WIDOW || k == BISHOP) && dust[at[tenant]] >= 100) {
                leaves += 4;
            }
            if (k == BISHOP) {
                leaves += goods[tenant] / 1000;
            }
            return leaves;
        }

        void passDays(int n) {
            for (int i = 0; i < n; i++) {
                passDay();
            }
        }

        void passDay() {
            settle(EVERYBODY);
            leaveMarks();
            payRents();
            day = Math.min(MOST_DAY, day + 1);
        }

        /** For those who ask of dust alone: marks and rents never move any. */
        void settleDays(int n, int sweepers) {
            for (int i = 0; i < n; i++) {
                settle(sweepers);
            }
        }

        private void settle(int sweepers) {
            blow();
            for (int s = 0; s < SURFACES; s++) {
                dust[s] = Math.min(MOST_DUST, dust[s] + fall);
            }
            for (int t = 0; t < tenants; t++) {
                if (((sweepers >> t) & 1) == 1) {
                    sweep(t);
                }
            }
        }

        private void blow() {
            for (int s = 0; s < SURFACES; s++) {
                blown[Math.floorMod(s + wind, SURFACES)] = dust[s] / 10;
            }
            for (int s = 0; s < SURFACES; s++) {
                dust[s] = dust[s] - dust[s] / 10 + blown[s];
            }
        }

        private void sweep(int tenant) {
            int surface = at[tenant];
            int swept = Math.min(SWEEPS[kind[tenant]], dust[surface]);
            dust[surface] -= swept;
            if (kind[tenant] == BISHOP) {
                gain(tenant, swept);
            } else if (kind[tenant] == WIDOW) {
                gain(tenant, swept / 2);
            }
        }

        private void leaveMarks() {
            for (int t = 0; t < tenants; t++) {
                int surface = at[t];
                for (int other = 0; other < tenants; other++) {
                    int i = other * SURFACES + surface;
                    if (other == t) {
                        marks[i] = Math.min(MOST_MARK, marks[i] + leavesOf(t));
                    } else if (marks[i] > 0) {
                        marks[i]--;
                    }
                }
            }
        }

        private void payRents() {
            for (int s = 0; s < SURFACES; s++) {
                int holder = holderOf(s);
                if (holder != NOBODY) {
                    gain(holder, dust[s] / 20);
                }
            }
        }

        private void gain(int tenant, int more) {
            int sum = goods[tenant] + more;
            goods[tenant] = sum > MOST_GOODS ? MOST_GOODS : sum;
        }
    }

    /** A row of numbers; of 0 bits it is missing. */
    private static final class Sheet {
        final int[] numbers = new int[MOST_NUMBERS];
        int bits;
        int length;

        int renew(int newBits, int n) {
            bits = newBits;
            length = newBits == 0 ? 0 : n;
            for (int i = 0; i < MOST_NUMBERS; i++) {
                numbers[i] = 0;
            }
            return length;
        }

        void put(int i, int v) {
            int unused = 32 - bits;
            numbers[i] = (v << unused) >> unused;
        }

        /** Put so that no sum can wrap round. */
        boolean has(int from, int n) {
            return from >= 0 && n >= 0 && from <= length && n <= length - from;
        }
    }

    private static final class Tape {
        final int[] bytes = new int[MOST_BYTES];
        int length;

        void append(int value, int n) {
            for (int i = n - 1; i >= 0; i--) {
                bytes[length] = (value >>> (8 * i)) & 255;
                length++;
            }
        }

        /** Where the run of letters or digits (whichever stands there) ends. */
        int endOfRun(int start) {
            int type = TextReader.typeOf(bytes[start]);
            int end = start + 1;
            while (end < length && TextReader.typeOf(bytes[end]) == type) {
                end++;
            }
            return end;
        }

        boolean spells(String name, int start, int end) {
            if (name.length() != end - start) {
                return false;
            }
            for (int i = start; i < end; i++) {
                if (bytes[i] != name.charAt(i - start)) {
                    return false;
                }
            }
            return true;
        }
    }

    /** Splits a tape into tokens first, then reads items from these. */
    private static final class TextReader {
        private static final int BLANK = 0;
        private static final int WORD = 1;
        private static final int NUMBER = 2;
        private static final int SEMICOLON = 3;
        private static final int MINUS = 4;
        private static final int OTHER = 5;
        private static final int END = 6;

        /** The words 0 to 6 are the kinds, by their own numbers. */
        private static final int DUST_WORD = 7;
        private static final int FALL_WORD = 8;
        private static final int DRAUGHT_WORD = 9;
        private static final int AT_WORD = 10;
        private static final int GOODS_WORD = 11;
        private static final int MARKS_WORD = 12;
        private static final int WORDS = 13;
        private static final int NO_WORD = -1;

        private static final int FAULTY = -1;

        final int[] types = new int[MOST_BYTES + 1];
        final int[] starts = new int[MOST_BYTES + 1];
        final int[] values = new int[MOST_BYTES + 1];
        int tokens;
        /** The token that is looked at; never behind END, which nobody takes. */
        int next;

        void split(Tape tape) {
            tokens = 0;
            next = 0;
            int before = BLANK;
            for (int i = 0; i < tape.length; i++) {
                int type = typeOf(tape.bytes[i]);
                boolean goesOn = type == before && (type == WORD || type == NUMBER);
                if (type != BLANK && !goesOn) {
                    add(type, i, valueAt(tape, type, i));
                }
                before = type;
            }
            add(END, tape.length, 0);
        }

        private void add(int type, int start, int value) {
            types[tokens] = type;
            starts[tokens] = start;
            values[tokens] = value;
            tokens++;
        }

        static int typeOf(int b) {
            if (b >= 'a' && b <= 'z') {
                return WORD;
            }
            if (b >= '0' && b <= '9') {
                return NUMBER;
            }
            switch (b) {
                case ' ': return BLANK;
                case ';': return SEMICOLON;
                case '-': return MINUS;
                default: return OTHER;
            }
        }

        private static int valueAt(Tape tape, int type, int start) {
            if (type == WORD) {
                return wordAt(tape, start);
            }
            return type == NUMBER ? numberAt(tape, start) : 0;
        }

        private static int wordAt(Tape tape, int start) {
            int end = tape.endOfRun(start);
            for (int w = 0; w < WORDS; w++) {
                if (tape.spells(nameOf(w), start, end)) {
                    return w;
                }
            }
            return NO_WORD;
        }

        private static int numberAt(Tape tape, int start) {
            int end = tape.endOfRun(start);
            int v = 0;
            for (int i = start; i < end; i++) {
                // Held down at one too many, so that many digits don't wrap round.
                v = Math.min(MOST_TOLD + 1, v * 10 + tape.bytes[i] - '0');
            }
            return v;
        }

        private static String nameOf(int word) {
            switch (word) {
                case 0: return "tenant";
                case 1: return "lord";
                case 2: return "maid";
                case 3: return "widow";
                case 4: return "bishop";
                case 5: return "cat";
                case 6: return "heir";
                case DUST_WORD: return "dust";
                case FALL_WORD: return "fall";
                case DRAUGHT_WORD: return "draught";
                case AT_WORD: return "at";
                case GOODS_WORD: return "goods";
                case MARKS_WORD: return "marks";
                default: return "";
            }
        }

        /** How many items, or -1 less the fault. */
        int readInto(Room into) {
            int items = 0;
            boolean more = true;
            // Each item takes a token at least: there can't be more items than tokens.
            while (more && items < tokens) {
                if (!readItem(into)) {
                    return -1 - starts[next];
                }
                items++;
                more = takes(SEMICOLON);
            }
            return types[next] == END ? items : -1 - starts[next];
        }

        private boolean readItem(Room into) {
            int word = types[next] == WORD ? values[next] : NO_WORD;
            if (isKind(word)) {
                return readTenant(into, word);
            }
            switch (word) {
                case DUST_WORD: return readDust(into);
                case FALL_WORD: return readFall(into);
                case DRAUGHT_WORD: return readDraught(into);
                default: return false;
            }
        }

        private boolean readTenant(Room into, int newKind) {
            if (into.tenants >= MOST_TENANTS) {
                return false;
            }
            next++;
            int surface = numberBehind(AT_WORD, SURFACES - 1);
            if (surface == FAULTY) {
                return false;
            }
            int goods = numberBehind(GOODS_WORD, MOST_TOLD);
            if (goods == FAULTY) {
                return false;
            }
            int mark = numberBehind(MARKS_WORD, MOST_MARK);
            if (mark == FAULTY) {
                return false;
            }
            int tenant = into.addTenant(newKind, surface);
            into.goods[tenant] = goods;
            into.marks[tenant * SURFACES + surface] = mark;
            return true;
        }

        private boolean readDust(Room into) {
            next++;
            int surface = takeNumber(SURFACES - 1);
            if (surface == FAULTY) {
                return false;
            }
            int v = takeNumber(MOST_DUST);
            if (v == FAULTY) {
                return false;
            }
            into.dust[surface] = v;
            return true;
        }

        private boolean readFall(Room into) {
            next++;
            int v = takeNumber(MOST_FALL);
            if (v == FAULTY) {
                return false;
            }
            into.fall = v;
            return true;
        }

        private boolean readDraught(Room into) {
            next++;
            boolean back = takes(MINUS);
            int v = takeNumber(MOST_DRAUGHT);
            if (v == FAULTY) {
                return false;
            }
            into.wind = back ? -v : v;
            return true;
        }

        private boolean takes(int sign) {
            if (types[next] != sign) {
                return false;
            }
            next++;
            return true;
        }

        /** 0 if the word doesn't stand there. */
        private int numberBehind(int word, int most) {
            if (types[next] != WORD || values[next] != word) {
                return 0;
            }
            next++;
            return takeNumber(most);
        }

        private int takeNumber(int most) {
            if (types[next] != NUMBER || values[next] > most) {
                return FAULTY;
            }
            int v = values[next];
            next++;
            return v;
        }
    }
}
