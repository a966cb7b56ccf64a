import java.util.Arrays;

/** A farm whose two brothers argue, and its shelf of wheels; ../shared/DOC.md says what each call promises. */
public final class RindDates {
    public static final int BAD = -1, FULL = -2, FINDING = -3, STATE = -4, SPENT = -6, NONE = -9;

    private static final int NOTHING = 1, BEYOND = 2, UNLIKE = 3, NOUGHT = 4, SIZE = 5;
    private static final int WHEEL = 0, OLD = 1, YOUNG = 2, SHOW = 3, RUNNY = 4, LONG = 5;
    private static final int DAY_PASSES = 0, SAYING = 1, WHEEL_MADE = 2, WHEEL_SOLD = 3;

    private static final int MOST_ROWS = 6, ROW_PLACES = 40, MOST_TEXTS = 4, TEXT_BYTES = 60;
    private static final int MATTERS = 4, MOST_HELD = 12, MOST_LIMIT = 60;
    private static final int KINDS = 6, SALTS = 10, MOST_WHEELS = 6, MOST_DEEDS = 40, MOST_KEPT = 3;
    private static final int MOST_ANGER = 100, MOST_RIND = 99, SHOW_RIND = 20;
    private static final int QUIET_DAYS = 20, PLAN_DAYS = 5, ABOUT_DAYS = 4, MOST_SHOWS = 4;
    private static final int MOST_TURNS = 5, CHANCE_DAYS = 6, CHANCE_PARTS = 12, MOST_LOTS = 20;
    private static final int LOT_FACTOR = 48271, LOT_MODULUS = 2147483647;

    private final Row[] rows = new Row[MOST_ROWS];
    private final Row[] texts = new Row[MOST_TEXTS];
    private final Farm farm = new Farm();
    private final Reading reading = new Reading();
    private final Plans plans = new Plans();
    private final Stalls stalls = new Stalls();
    private final Grudges aside = new Grudges();
    private final Told told = new Told();

    public RindDates() {
        for (int r = 0; r < rows.length; r++) {
            rows[r] = new Row(ROW_PLACES, 0);
        }
        for (int t = 0; t < texts.length; t++) {
            texts[t] = new Row(TEXT_BYTES, ' ');
        }
    }

    // ---- 1 rows, texts, farms

    public int row(int r, int n) {
        Row row = rowOf(r);
        if (row == null || n > ROW_PLACES) {
            return BAD;
        }
        if (n < 0) {
            return told.refuse(SIZE);
        }
        row.renew(n);
        return n;
    }

    public int lay(int r, int i, int v) {
        Row row = rowOf(r);
        int refusal = refusalOfPlace(row, i);
        if (row == null || refusal != 0) {
            return refusal;
        }
        int was = row.get(i);
        row.set(i, v);
        return told.tell(was);
    }

    public int at(int r, int i) {
        Row row = rowOf(r);
        int refusal = refusalOfPlace(row, i);
        if (row == null || refusal != 0) {
            return refusal;
        }
        return told.tell(row.get(i));
    }

    public int tear(int r) {
        Row row = rowOf(r);
        int refusal = refusalOf(row);
        if (row == null || refusal != 0) {
            return refusal;
        }
        row.size = -1;
        return 1;
    }

    public int copy(int r, int i, int to, int j, int n) {
        Row from = rowOf(r);
        Row into = rowOf(to);
        if (from == null || into == null) {
            return BAD;
        }
        if (n < 0) {
            return told.refuse(SIZE);
        }
        if (from.isMissing() || into.isMissing()) {
            return told.refuse(NOTHING);
        }
        if (!from.hasPlaces(i, n) || !into.hasPlaces(j, n)) {
            return told.refuse(BEYOND);
        }
        System.arraycopy(from.places, i, into.places, j, n);
        return 1;
    }

    public int mean(int r) {
        Row row = rowOf(r);
        int refusal = refusalOf(row);
        if (row == null || refusal != 0) {
            return refusal;
        }
        if (row.size == 0) {
            return told.refuse(NOUGHT);
        }
        return told.tell((int) (row.sum() / row.size));
    }

    public int text(int t, int n) {
        Row text = textOf(t);
        if (text == null || n > TEXT_BYTES) {
            return BAD;
        }
        if (n < 0) {
            return told.refuse(SIZE);
        }
        text.renew(n);
        return n;
    }

    public int put(int t, int i, int v) {
        Row text = textOf(t);
        int refusal = refusalOfPlace(text, i);
        if (text == null || refusal != 0) {
            return refusal;
        }
        int was = text.get(i);
        text.set(i, (byte) v);
        return was + 1000;
    }

    public int fault(int t) {
        Row text = textOf(t);
        int refusal = refusalOf(text);
        if (text == null || refusal != 0) {
            return refusal;
        }
        return reading.read(text);
    }

    public int farm(int t) {
        Row text = textOf(t);
        int refusal = refusalOf(text);
        if (text == null || refusal != 0) {
            return refusal;
        }
        if (reading.read(text) != NONE) {
            return STATE;
        }
        farm.begin(reading);
        return farm.size;
    }

    public int wheel(int i, int what) {
        Wheel wheel = farm.wheelOf(i);
        if (wheel == null || !within(what, 0, 6)) {
            return BAD;
        }
        return told.tell(farm.tellOf(wheel, what));
    }

    public int mark(int i, int kind) {
        Wheel wheel = farm.wheelOf(i);
        if (wheel == null || !within(kind, OLD, LONG)) {
            return BAD;
        }
        if (!isOf(wheel.kind, kind)) {
            return told.refuse(UNLIKE);
        }
        return markOf(wheel, kind);
    }

    public int holds(int who, int matter) {
        if (!within(who, 0, 1) || !isMatter(matter)) {
            return BAD;
        }
        return farm.now.get(who, matter);
    }

    public int anger(int n) {
        if (!within(n, 0, QUIET_DAYS)) {
            return BAD;
        }
        if (farm.isEmpty()) {
            return STATE;
        }
        aside.takeFrom(farm.now);
        for (int d = 0; d < n; d++) {
            aside.passDay();
        }
        int total = aside.total();
        told.tell(farm.isSilentBy(total) ? 1 : 0);
        return total;
    }

    // ---- 2 deeds

    public int day() {
        if (farm.isEmpty()) {
            return STATE;
        }
        if (!farm.deeds.hasRoom(1)) {
            return FULL;
        }
        farm.enact(DAY_PASSES, 0);
        return farm.now.total();
    }

    public int say(int matter) {
        if (!isMatter(matter)) {
            return BAD;
        }
        if (farm.isEmpty()) {
            return STATE;
        }
        if (!farm.deeds.hasRoom(1)) {
            return FULL;
        }
        farm.enact(SAYING, matter);
        return farm.now.total();
    }

    public int make(int i) {
        Wheel wheel = farm.wheelOf(i);
        if (wheel == null) {
            return BAD;
        }
        if (wheel.isMade()) {
            return STATE;
        }
        if (!farm.deeds.hasRoom(1)) {
            return FULL;
        }
        farm.enact(WHEEL_MADE, i);
        return wheel.rind;
    }

    public int sell(int i) {
        Wheel wheel = farm.wheelOf(i);
        if (wheel == null) {
            return BAD;
        }
        if (!farm.isOnShelf(wheel)) {
            return STATE;
        }
        if (!farm.deeds.hasRoom(1)) {
            return FULL;
        }
        farm.enact(WHEEL_SOLD, i);
        return wheel.rind;
    }

    public int undo(int n) {
        int had = farm.deeds.size;
        if (!within(n, 0, had)) {
            return BAD;
        }
        farm.deeds.size = n;
        farm.replay();
        return had - n;
    }

    public int keep(int k) {
        Deeds kept = farm.keptOf(k);
        if (kept == null) {
            return BAD;
        }
        if (farm.isEmpty()) {
            return STATE;
        }
        kept.takeFrom(farm.deeds);
        return kept.size;
    }

    public int on(int k) {
        Deeds kept = farm.keptOf(k);
        if (kept == null) {
            return BAD;
        }
        if (kept.isMissing()) {
            return told.refuse(NOTHING);
        }
        farm.deeds.takeFrom(kept);
        farm.replay();
        return kept.size;
    }

    // ---- 3 peace, plans (aside)

    public int peace() {
        if (farm.isEmpty()) {
            return STATE;
        }
        aside.takeFrom(farm.now);
        int days = 0;
        // What is held most is gone by MOST_HELD days, and a limit is 1 at least.
        while (days < MOST_HELD && farm.isSilentBy(aside.total())) {
            aside.passDay();
            days++;
        }
        told.tell(aside.total());
        return days;
    }

    public int plan(int i, int n, int v, int r) {
        Wheel wheel = farm.wheelOf(i);
        Row row = rowOf(r);
        if (wheel == null || !within(n, 0, PLAN_DAYS) || !within(v, 0, 60) || row == null) {
            return BAD;
        }
        int fewest = NONE;
        plans.begin(farm.now, n);
        int many = plans.howMany();
        for (int k = 0; k < many; k++) {
            int sayings = plans.sayings();
            if ((fewest == NONE || sayings < fewest) && wheel.rindBy(plans.lastAnger(), farm.limit) >= v) {
                fewest = sayings;
                plans.writeTo(row);
            }
            plans.advance();
        }
        return fewest;
    }

    public int through(int r) {
        Row row = rowOf(r);
        if (row == null) {
            return BAD;
        }
        if (farm.isEmpty()) {
            return STATE;
        }
        if (row.isMissing()) {
            return told.refuse(NOTHING);
        }
        if (row.size > QUIET_DAYS) {
            return told.refuse(SIZE);
        }
        if (!isPlan(row)) {
            return told.refuse(UNLIKE);
        }
        int silent = 0;
        aside.takeFrom(farm.now);
        for (int d = 0; d < row.size; d++) {
            if (farm.isSilentBy(aside.total())) {
                silent++;
            }
            aside.passDayWith(row.get(d));
        }
        told.tell(silent);
        return aside.total();
    }

    // ---- 4 what it was about

    public int about(int r) {
        Row row = rowOf(r);
        int refusal = refusalOfAngers(row);
        if (row == null || refusal != 0) {
            return refusal;
        }
        int found = 0;
        int first = NONE;
        plans.begin(farm.now, row.size);
        int many = plans.howMany();
        for (int k = 0; k < many; k++) {
            if (plans.leadsBy(row)) {
                first = found == 0 ? plans.firstSaid() : first;
                found++;
            }
            plans.advance();
        }
        told.tellParts(found, 1);
        return told.tell(first);
    }

    public int sure(int r) {
        Row row = rowOf(r);
        int refusal = refusalOfAngers(row);
        if (row == null || refusal != 0) {
            return refusal;
        }
        int all = (1 << MATTERS) - 1;
        int inAll = all;
        int inSome = 0;
        boolean found = false;
        plans.begin(farm.now, row.size);
        int many = plans.howMany();
        for (int k = 0; k < many; k++) {
            if (plans.leadsBy(row)) {
                found = true;
                inAll &= plans.mattersSaid();
                inSome |= plans.mattersSaid();
            }
            plans.advance();
        }
        if (!found) {
            return told.refuse(NOUGHT);
        }
        told.tell(all & ~inSome);
        return inAll;
    }

    // ---- 5 what a wheel is

    public int salts(int i, int r) {
        Wheel wheel = farm.wheelOf(i);
        Row row = rowOf(r);
        int refusal = refusalOfPairs(wheel, row);
        if (wheel == null || row == null || refusal != 0) {
            return refusal;
        }
        int fitting = 0;
        for (int salt = 0; salt < SALTS; salt++) {
            if (fits(wheel.kind, salt, row)) {
                fitting |= 1 << salt;
            }
        }
        return fitting;
    }

    public int kinds(int i, int r) {
        Wheel wheel = farm.wheelOf(i);
        Row row = rowOf(r);
        int refusal = refusalOfPairs(wheel, row);
        if (wheel == null || row == null || refusal != 0) {
            return refusal;
        }
        return kindsBy(wheel.salt, row);
    }

    public int test(int i, int r) {
        Wheel wheel = farm.wheelOf(i);
        Row row = rowOf(r);
        int refusal = refusalOfPairs(wheel, row);
        if (wheel == null || row == null || refusal != 0) {
            return refusal;
        }
        int fitting = kindsBy(wheel.salt, row);
        if (fitting == 0) {
            return NONE;
        }
        int best = 0;
        int least = KINDS + 1;
        for (int anger = 0; anger <= MOST_ANGER; anger++) {
            int part = greatestPart(fitting, wheel.salt, anger);
            if (part < least) {
                least = part;
                best = anger;
            }
        }
        told.tell(least);
        return best;
    }

    // ---- 6 shows

    public int shows(int r, int to) {
        Row row = rowOf(r);
        Row into = rowOf(to);
        if (row == null || into == null) {
            return BAD;
        }
        if (farm.isEmpty()) {
            return STATE;
        }
        if (row.isMissing()) {
            return told.refuse(NOTHING);
        }
        if (row.size > MOST_SHOWS) {
            return told.refuse(SIZE);
        }
        if (!row.isWithin(MOST_RIND)) {
            return told.refuse(UNLIKE);
        }
        int most = stalls.fillFrom(farm, row);
        stalls.writeTo(into);
        return most;
    }

    // ---- 7 by turns

    public int duel(int n) {
        if (!within(n, 0, MOST_TURNS)) {
            return BAD;
        }
        if (farm.isEmpty()) {
            return STATE;
        }
        aside.takeFrom(farm.now);
        return mostByNephew(aside, n);
    }

    // ---- 8 chances, lots

    public int odds(int n, int matter, int p) {
        if (!areChances(n, matter, p)) {
            return BAD;
        }
        if (farm.isEmpty()) {
            return STATE;
        }
        told.tellParts(weighed(n, matter, p, true), power(CHANCE_PARTS, n));
        return 1;
    }

    public int mid(int n, int matter, int p) {
        if (!areChances(n, matter, p)) {
            return BAD;
        }
        if (farm.isEmpty()) {
            return STATE;
        }
        told.tellParts(weighed(n, matter, p, false), power(CHANCE_PARTS, n));
        return 1;
    }

    public int lots(int n, int seed) {
        if (!within(n, 1, MOST_LOTS) || !within(seed, 1, LOT_MODULUS - 1)) {
            return BAD;
        }
        if (farm.isEmpty()) {
            return STATE;
        }
        if (!farm.deeds.hasRoom(n)) {
            return FULL;
        }
        long number = seed;
        for (int k = 0; k < n; k++) {
            number = number * LOT_FACTOR % LOT_MODULUS;
            enactLot((int) number);
        }
        return farm.now.total();
    }

    // ---- 9 what is told

    public int asked() {
        return told.asked;
    }

    public long upper() {
        return told.upper;
    }

    public long lower() {
        return told.lower;
    }

    public int count(int what) {
        return within(what, 0, 10) ? counted(what) : BAD;
    }

    public int finding() {
        return told.latest;
    }

    public int findings(int f) {
        return within(f, NOTHING, SIZE) ? told.timesOf(f) : BAD;
    }

    public long digest() {
        long h = 17;
        for (int what = 0; what <= 10; what++) {
            h = 31 * h + counted(what);
        }
        h = farm.digestFrom(h);
        h = digestOf(rows, h);
        return digestOf(texts, h);
    }

    // ---- what the calls share

    private static boolean within(int v, int least, int most) {
        return v >= least && v <= most;
    }

    private static boolean isMatter(int v) {
        return within(v, 0, MATTERS - 1);
    }

    private Row rowOf(int r) {
        return r >= 0 && r < rows.length ? rows[r] : null;
    }

    private Row textOf(int t) {
        return t >= 0 && t < texts.length ? texts[t] : null;
    }

    /** 0, if the row is there. */
    private int refusalOf(Row row) {
        if (row == null) {
            return BAD;
        }
        return row.isMissing() ? told.refuse(NOTHING) : 0;
    }

    /** 0, if the row is there and has the place. */
    private int refusalOfPlace(Row row, int i) {
        int refusal = refusalOf(row);
        if (row == null || refusal != 0) {
            return refusal;
        }
        return row.hasPlace(i) ? 0 : told.refuse(BEYOND);
    }

    private static boolean isPlan(Row row) {
        for (int d = 0; d < row.size; d++) {
            if (row.get(d) != NONE && !isMatter(row.get(d))) {
                return false;
            }
        }
        return true;
    }

    private static boolean areChances(int n, int matter, int p) {
        return within(n, 0, CHANCE_DAYS) && isMatter(matter) && within(p, 0, CHANCE_PARTS);
    }

    /** 0, if the row tells angers as about() and sure() want them. */
    private int refusalOfAngers(Row row) {
        if (row == null) {
            return BAD;
        }
        if (farm.isEmpty()) {
            return STATE;
        }
        if (row.isMissing()) {
            return told.refuse(NOTHING);
        }
        if (!within(row.size, 1, ABOUT_DAYS)) {
            return told.refuse(SIZE);
        }
        return row.isWithin(MOST_ANGER) ? 0 : told.refuse(UNLIKE);
    }

    /** 0, if the row tells pairs as salts(), kinds() and test() want them. */
    private int refusalOfPairs(Wheel wheel, Row row) {
        if (wheel == null || row == null) {
            return BAD;
        }
        if (row.isMissing()) {
            return told.refuse(NOTHING);
        }
        if (row.size % 2 != 0) {
            return told.refuse(SIZE);
        }
        for (int i = 0; i < row.size; i++) {
            if (!within(row.get(i), 0, i % 2 == 0 ? MOST_ANGER : MOST_RIND)) {
                return told.refuse(UNLIKE);
            }
        }
        return 0;
    }

    private static int rindOf(int kind, int salt, int anger, int limit) {
        boolean silent = anger >= limit;
        int plain = (salt + anger / 4) * (silent ? 2 : 1);
        switch (kind) {
            case OLD:
                return plain + 2;
            case YOUNG:
                return plain / 2;
            case SHOW:
                return Math.min(plain + 2, SHOW_RIND);
            case RUNNY:
                return silent ? plain / 2 : 0;
            case LONG:
                return Math.min(plain + 2, SHOW_RIND) + 5;
            default:
                return plain;
        }
    }

    private static boolean isOf(int own, int kind) {
        switch (kind) {
            case WHEEL:
                return true;
            case OLD:
                return own == OLD || own == SHOW || own == LONG;
            case YOUNG:
                return own == YOUNG || own == RUNNY;
            case SHOW:
                return own == SHOW || own == LONG;
            default:
                return own == kind;
        }
    }

    private int markOf(Wheel wheel, int kind) {
        int total = farm.now.total();
        int own = wheel.rindBy(total, farm.limit);
        switch (kind) {
            case OLD:
                return 100 + own - rindOf(WHEEL, wheel.salt, total, farm.limit);
            case YOUNG:
                return rindOf(WHEEL, wheel.salt, total, farm.limit) - own;
            case SHOW:
                return 100 + rindOf(OLD, wheel.salt, total, farm.limit) - own;
            case RUNNY:
                return own == 0 ? 1 : 0;
            default:
                return farm.now.heldByBoth();
        }
    }

    private boolean fits(int kind, int salt, Row pairs) {
        for (int i = 0; i + 1 < pairs.size; i += 2) {
            if (rindOf(kind, salt, pairs.get(i), farm.limit) != pairs.get(i + 1)) {
                return false;
            }
        }
        return true;
    }

    private int kindsBy(int salt, Row pairs) {
        int fitting = 0;
        for (int kind = 0; kind < KINDS; kind++) {
            if (fits(kind, salt, pairs)) {
                fitting |= 1 << kind;
            }
        }
        return fitting;
    }

    /** How many of these kinds at most have the same rind by this anger. */
    private int greatestPart(int kindBits, int salt, int anger) {
        int greatest = 0;
        for (int kind = 0; kind < KINDS; kind++) {
            int alike = 0;
            for (int other = 0; other < KINDS; other++) {
                boolean both = ((kindBits >> kind) & (kindBits >> other) & 1) == 1;
                if (both && rindOf(kind, salt, anger, farm.limit) == rindOf(other, salt, anger, farm.limit)) {
                    alike++;
                }
            }
            greatest = Math.max(greatest, alike);
        }
        return greatest;
    }

    /** turns falls by 1 with each call, and duel() allows few. */
    private static int mostByNephew(Grudges grudges, int turns) {
        if (turns <= 0) {
            return grudges.total();
        }
        int most = leastByAunt(grudges, turns - 1);
        for (int m = 0; m < MATTERS; m++) {
            int elder = grudges.get(0, m);
            int younger = grudges.get(1, m);
            grudges.raise(m);
            most = Math.max(most, leastByAunt(grudges, turns - 1));
            grudges.set(0, m, elder);
            grudges.set(1, m, younger);
        }
        return most;
    }

    private static int leastByAunt(Grudges grudges, int turns) {
        if (turns <= 0) {
            return grudges.total();
        }
        int least = mostByNephew(grudges, turns - 1);
        for (int who = 0; who <= 1; who++) {
            for (int m = 0; m < MATTERS; m++) {
                int held = grudges.get(who, m);
                grudges.set(who, m, 0);
                least = Math.min(least, mostByNephew(grudges, turns - 1));
                grudges.set(who, m, held);
            }
        }
        return least;
    }

    private static long power(long base, int n) {
        long result = 1;
        for (int k = 0; k < n; k++) {
            result *= base;
        }
        return result;
    }

    /** Over all ways in which sayings come: the silent ones (or the anger of each), by parts of 12 to the n. */
    private long weighed(int n, int matter, int p, boolean silence) {
        long sum = 0;
        int ways = 1 << n;
        for (int way = 0; way < ways; way++) {
            long weight = 1;
            aside.takeFrom(farm.now);
            for (int d = 0; d < n; d++) {
                boolean said = ((way >> d) & 1) == 1;
                weight *= said ? p : CHANCE_PARTS - p;
                aside.passDayWith(said ? matter : NONE);
            }
            int total = aside.total();
            int value = farm.isSilentBy(total) ? 1 : 0;
            sum += weight * (silence ? value : total);
        }
        return sum;
    }

    private void enactLot(int number) {
        int choice = number / 8;
        if (number % 3 == 0) {
            farm.enact(SAYING, choice % MATTERS);
            return;
        }
        int i = farm.size > 0 ? choice % farm.size : 0;
        Wheel wheel = farm.wheelOf(i);
        if (number % 3 == 1 && wheel != null && !wheel.isMade()) {
            farm.enact(WHEEL_MADE, i);
        } else {
            farm.enact(DAY_PASSES, 0);
        }
    }

    private int counted(int what) {
        switch (what) {
            case 0:
                return farm.size;
            case 1:
                return farm.date;
            case 2:
                return farm.deeds.size;
            case 3:
                return farm.now.total();
            case 4:
                return !farm.isEmpty() && farm.isSilentBy(farm.now.total()) ? 1 : 0;
            case 5:
                return farm.shelfBits();
            case 6:
                return farm.shelfRind();
            case 7:
                return farm.oldWheels();
            case 8:
                return thereOf(rows);
            case 9:
                return thereOf(texts);
            default:
                return farm.keptThere();
        }
    }

    private static int thereOf(Row[] all) {
        int there = 0;
        for (int r = 0; r < all.length; r++) {
            there += all[r].isMissing() ? 0 : 1;
        }
        return there;
    }

    private static long digestOf(Row[] all, long start) {
        long h = start;
        for (int r = 0; r < all.length; r++) {
            h = all[r].digestFrom(h);
        }
        return h;
    }

    /** What was told and found last; only a finding changes by a refusal. */
    private static final class Told {
        private final int[] times = new int[SIZE + 1];
        private int latest;
        private int asked;
        private long upper;
        private long lower = 1;

        private int refuse(int which) {
            latest = which;
            if (which >= 0 && which < times.length) {
                times[which]++;
            }
            return FINDING;
        }

        private int timesOf(int which) {
            return which >= 0 && which < times.length ? times[which] : 0;
        }

        private int tell(int v) {
            asked = v;
            return 1;
        }

        private void tellParts(long above, long below) {
            long part = commonPart(above, below);
            if (part == 0) {
                return;
            }
            upper = above / part;
            lower = below / part;
        }

        private static long commonPart(long a, long b) {
            long greater = a;
            long rest = b;
            // Euclid needs some 90 steps at most for two longs.
            for (int step = 0; step < 1000 && rest != 0; step++) {
                long next = greater % rest;
                greater = rest;
                rest = next;
            }
            return greater;
        }
    }

    /** A row or a text; its size is -1 while it is missing. */
    private static final class Row {
        private final int[] places;
        private final int blank;
        private int size = -1;

        private Row(int most, int blank) {
            places = new int[Math.max(0, most)];
            this.blank = blank;
        }

        private boolean isMissing() {
            return size < 0;
        }

        private void renew(int n) {
            Arrays.fill(places, blank);
            size = Math.min(n, places.length);
        }

        private boolean hasPlace(int i) {
            return i >= 0 && i < size;
        }

        private boolean hasPlaces(int i, int n) {
            return i >= 0 && i <= size && n >= 0 && n <= size - i;
        }

        private int get(int i) {
            return i >= 0 && i < places.length ? places[i] : 0;
        }

        private void set(int i, int v) {
            if (i >= 0 && i < places.length) {
                places[i] = v;
            }
        }

        private boolean isWithin(int most) {
            for (int i = 0; i < size; i++) {
                if (!within(get(i), 0, most)) {
                    return false;
                }
            }
            return true;
        }

        private long sum() {
            long sum = 0;
            for (int i = 0; i < size; i++) {
                sum += get(i);
            }
            return sum;
        }

        private long digestFrom(long start) {
            long h = 31 * start + size;
            for (int i = 0; i < size; i++) {
                h = 31 * h + get(i);
            }
            return h;
        }
    }

    /** A farm as a text tells it; the parts that read answer a fault's place, or NONE. */
    private static final class Reading {
        private final Grudges grudges = new Grudges();
        private final int[] kinds = new int[MOST_WHEELS];
        private final int[] keeps = new int[MOST_WHEELS];
        private final int[] salts = new int[MOST_WHEELS];
        private int limit;
        private int wheels;
        private int place;

        private int read(Row text) {
            place = 0;
            wheels = 0;
            skipBlanks(text);
            int fault = readBrothers(text);
            return fault == NONE ? readWheels(text) : fault;
        }

        private void skipBlanks(Row text) {
            while (place < text.size && text.get(place) == ' ') {
                place++;
            }
        }

        private boolean hasFigure(Row text) {
            return place < text.size && within(text.get(place), '0', '9');
        }

        private int takeFigure(Row text) {
            int figure = text.get(place) - '0';
            place++;
            return figure;
        }

        /** The place is the text's size, where its end comes too early. */
        private int readBrothers(Row text) {
            if (place >= text.size || text.get(place) != 'a') {
                return place;
            }
            place++;
            for (int k = 0; k < 2 * MATTERS; k++) {
                if (!hasFigure(text)) {
                    return place;
                }
                grudges.set(k / MATTERS, k % MATTERS, takeFigure(text));
            }
            return readLimit(text);
        }

        private int readLimit(Row text) {
            int first = place;
            limit = 0;
            for (int k = 0; k < 2; k++) {
                if (!hasFigure(text)) {
                    return place;
                }
                limit = 10 * limit + takeFigure(text);
            }
            return within(limit, 1, MOST_LIMIT) ? NONE : first;
        }

        private int readWheels(Row text) {
            for (int k = 0; k <= MOST_WHEELS; k++) {
                skipBlanks(text);
                if (place >= text.size) {
                    return k == 0 ? place : NONE;
                }
                if (k == MOST_WHEELS || !readWheel(text, k)) {
                    return place;
                }
                wheels = k + 1;
            }
            return NONE;
        }

        private boolean readWheel(Row text, int k) {
            int kind = kindBy(text.get(place));
            if (kind == NONE || k < 0 || k >= MOST_WHEELS) {
                return false;
            }
            place++;
            if (!hasFigure(text) || text.get(place) == '0') {
                return false;
            }
            int keeping = takeFigure(text);
            if (!hasFigure(text)) {
                return false;
            }
            kinds[k] = kind;
            keeps[k] = keeping;
            salts[k] = takeFigure(text);
            return true;
        }

        private static int kindBy(int letter) {
            switch (letter) {
                case 'w':
                    return WHEEL;
                case 'o':
                    return OLD;
                case 'y':
                    return YOUNG;
                case 's':
                    return SHOW;
                case 'r':
                    return RUNNY;
                case 'l':
                    return LONG;
                default:
                    return NONE;
            }
        }
    }

    /** What the elder (0) and the younger (1) hold, by matters. */
    private static final class Grudges {
        private final int[] held = new int[2 * MATTERS];

        private int get(int who, int matter) {
            int place = who * MATTERS + matter;
            return place >= 0 && place < held.length ? held[place] : 0;
        }

        private void set(int who, int matter, int v) {
            int place = who * MATTERS + matter;
            if (place >= 0 && place < held.length) {
                held[place] = v;
            }
        }

        private void takeFrom(Grudges other) {
            System.arraycopy(other.held, 0, held, 0, held.length);
        }

        private int total() {
            int total = 0;
            for (int k = 0; k < held.length; k++) {
                total += held[k];
            }
            return total;
        }

        private int heldByBoth() {
            int matters = 0;
            for (int m = 0; m < MATTERS; m++) {
                matters += get(0, m) > 0 && get(1, m) > 0 ? 1 : 0;
            }
            return matters;
        }

        private void passDay() {
            for (int k = 0; k < held.length; k++) {
                held[k] = Math.max(0, held[k] - (k < MATTERS ? 1 : 2));
            }
        }

        private void raise(int matter) {
            set(0, matter, Math.min(MOST_HELD, get(0, matter) + 3));
            set(1, matter, Math.min(MOST_HELD, get(1, matter) + 3));
        }

        private void passDayWith(int saying) {
            if (saying != NONE) {
                raise(saying);
            }
            passDay();
        }
    }

    private static final class Wheel {
        private int kind;
        private int keeps;
        private int salt;
        private int madeOn = NONE;
        private int rind = NONE;
        private boolean sold;

        private void forget() {
            madeOn = NONE;
            rind = NONE;
            sold = false;
        }

        private boolean isMade() {
            return madeOn != NONE;
        }

        private int rindBy(int anger, int limit) {
            return rindOf(kind, salt, anger, limit);
        }
    }

    /** What was done, as it came; its size is -1 while it is a kept one that is missing. */
    private static final class Deeds {
        private final int[] whats = new int[MOST_DEEDS];
        private final int[] whiches = new int[MOST_DEEDS];
        private int size;

        private boolean isMissing() {
            return size < 0;
        }

        private boolean hasRoom(int n) {
            return size + n <= MOST_DEEDS;
        }

        private void add(int what, int which) {
            if (size >= 0 && size < MOST_DEEDS) {
                whats[size] = what;
                whiches[size] = which;
                size++;
            }
        }

        private void takeFrom(Deeds other) {
            System.arraycopy(other.whats, 0, whats, 0, MOST_DEEDS);
            System.arraycopy(other.whiches, 0, whiches, 0, MOST_DEEDS);
            size = other.size;
        }
    }

    /** The farm as its deeds have made it; kept ones are of the same text, so their deeds tell them whole. */
    private static final class Farm {
        private final Grudges first = new Grudges();
        private final Grudges now = new Grudges();
        private final Wheel[] wheels = new Wheel[MOST_WHEELS];
        private final Deeds deeds = new Deeds();
        private final Deeds[] kept = new Deeds[MOST_KEPT];
        private int limit;
        private int size;
        private int date;

        private Farm() {
            for (int i = 0; i < wheels.length; i++) {
                wheels[i] = new Wheel();
            }
            for (int k = 0; k < kept.length; k++) {
                kept[k] = new Deeds();
                kept[k].size = -1;
            }
        }

        private boolean isEmpty() {
            return size == 0;
        }

        private Wheel wheelOf(int i) {
            return i >= 0 && i < size && i < wheels.length ? wheels[i] : null;
        }

        private Deeds keptOf(int k) {
            return k >= 0 && k < kept.length ? kept[k] : null;
        }

        private boolean isSilentBy(int anger) {
            return anger >= limit;
        }

        private void begin(Reading reading) {
            first.takeFrom(reading.grudges);
            limit = reading.limit;
            size = Math.min(reading.wheels, wheels.length);
            for (int i = 0; i < size; i++) {
                wheels[i].kind = reading.kinds[i];
                wheels[i].keeps = reading.keeps[i];
                wheels[i].salt = reading.salts[i];
            }
            for (int k = 0; k < kept.length; k++) {
                kept[k].size = -1;
            }
            deeds.size = 0;
            replay();
        }

        private void replay() {
            now.takeFrom(first);
            date = 0;
            for (int i = 0; i < wheels.length; i++) {
                wheels[i].forget();
            }
            for (int k = 0; k < deeds.size && k < MOST_DEEDS; k++) {
                act(deeds.whats[k], deeds.whiches[k]);
            }
        }

        private void enact(int what, int which) {
            deeds.add(what, which);
            act(what, which);
        }

        private void act(int what, int which) {
            if (what == DAY_PASSES) {
                now.passDay();
                date++;
            } else if (what == SAYING) {
                now.raise(which);
            } else {
                actOn(wheelOf(which), what);
            }
        }

        private void actOn(Wheel wheel, int what) {
            if (wheel == null) {
                return;
            }
            if (what == WHEEL_MADE) {
                wheel.madeOn = date;
                wheel.rind = rindOf(wheel.kind, wheel.salt, now.total(), limit);
            } else if (what == WHEEL_SOLD) {
                wheel.sold = true;
            }
        }

        private boolean isOnShelf(Wheel wheel) {
            return wheel.isMade() && !wheel.sold && date - wheel.madeOn < wheel.keeps;
        }

        private int tellOf(Wheel wheel, int what) {
            switch (what) {
                case 0:
                    return wheel.kind;
                case 1:
                    return wheel.keeps;
                case 2:
                    return wheel.salt;
                case 3:
                    return wheel.madeOn;
                case 4:
                    return wheel.rind;
                case 5:
                    return isOnShelf(wheel) ? 1 : 0;
                default:
                    return wheel.rindBy(now.total(), limit);
            }
        }

        private int shelfBits() {
            int bits = 0;
            for (int i = 0; i < size && i < wheels.length; i++) {
                bits |= isOnShelf(wheels[i]) ? 1 << i : 0;
            }
            return bits;
        }

        private int shelfRind() {
            int sum = 0;
            for (int i = 0; i < size && i < wheels.length; i++) {
                sum += isOnShelf(wheels[i]) ? wheels[i].rind : 0;
            }
            return sum;
        }

        private int oldWheels() {
            int old = 0;
            for (int i = 0; i < size && i < wheels.length; i++) {
                old += isOf(wheels[i].kind, OLD) ? 1 : 0;
            }
            return old;
        }

        private int keptThere() {
            int there = 0;
            for (int k = 0; k < kept.length; k++) {
                there += kept[k].isMissing() ? 0 : 1;
            }
            return there;
        }

        private long digestFrom(long start) {
            long h = start;
            for (int k = 0; k < 2 * MATTERS; k++) {
                h = 31 * h + now.get(k / MATTERS, k % MATTERS);
            }
            for (int i = 0; i < size && i < wheels.length; i++) {
                for (int what = 0; what <= 6; what++) {
                    h = 31 * h + tellOf(wheels[i], what);
                }
            }
            for (int k = 0; k < kept.length; k++) {
                h = 31 * h + kept[k].size;
            }
            return h;
        }
    }

    /** All plans of some days, in their order; what is behind each day is kept, so a step reckons only what it changes. */
    private static final class Plans {
        private final int[] said = new int[PLAN_DAYS];
        private final Grudges[] behind = new Grudges[PLAN_DAYS + 1];
        private int days;

        private Plans() {
            for (int d = 0; d < behind.length; d++) {
                behind[d] = new Grudges();
            }
        }

        private void begin(Grudges now, int n) {
            days = Math.max(0, Math.min(n, PLAN_DAYS));
            behind[0].takeFrom(now);
            Arrays.fill(said, NONE);
            reckonFrom(0);
        }

        private int howMany() {
            return (int) power(MATTERS + 1, days);
        }

        /** Goes on to the next plan; behind the last one it is the first again. */
        private void advance() {
            int d = Math.min(days, said.length) - 1;
            while (d > 0 && said[d] == MATTERS - 1) {
                said[d] = NONE;
                d--;
            }
            if (d < 0) {
                return;
            }
            said[d] = after(said[d]);
            reckonFrom(d);
        }

        private static int after(int saying) {
            if (saying == NONE) {
                return 0;
            }
            return saying < MATTERS - 1 ? saying + 1 : NONE;
        }

        private void reckonFrom(int first) {
            for (int d = Math.max(0, first); d < days && d < said.length; d++) {
                behind[d + 1].takeFrom(behind[d]);
                behind[d + 1].passDayWith(said[d]);
            }
        }

        private int lastAnger() {
            return days >= 0 && days < behind.length ? behind[days].total() : 0;
        }

        private int firstSaid() {
            return said[0];
        }

        private int sayings() {
            int sayings = 0;
            for (int d = 0; d < days && d < said.length; d++) {
                sayings += said[d] == NONE ? 0 : 1;
            }
            return sayings;
        }

        private int mattersSaid() {
            int bits = 0;
            for (int d = 0; d < days && d < said.length; d++) {
                bits |= said[d] == NONE ? 0 : 1 << said[d];
            }
            return bits;
        }

        /** Whether the anger was as the row tells behind each day. */
        private boolean leadsBy(Row angers) {
            for (int d = 0; d < days && d + 1 < behind.length; d++) {
                if (behind[d + 1].total() != angers.get(d)) {
                    return false;
                }
            }
            return true;
        }

        private void writeTo(Row row) {
            row.renew(days);
            for (int d = 0; d < days && d < said.length; d++) {
                row.set(d, said[d]);
            }
        }
    }

    /** Which wheel each show has. */
    private static final class Stalls {
        private final int[] has = new int[MOST_SHOWS];
        private final int[] best = new int[MOST_SHOWS];
        private int size;

        /** Goes through all ways in their order; only one that fills more shows comes for an earlier one. */
        private int fillFrom(Farm farm, Row wants) {
            size = Math.max(0, Math.min(wants.size, MOST_SHOWS));
            int most = -1;
            long ways = power(farm.size + 1, size);
            for (int way = 0; way < ways; way++) {
                int filled = filledBy(way, farm, wants);
                if (filled > most) {
                    most = filled;
                    System.arraycopy(has, 0, best, 0, MOST_SHOWS);
                }
            }
            return most;
        }

        /** How many shows have a wheel by this way; -1, if it is none. */
        private int filledBy(int way, Farm farm, Row wants) {
            int choices = farm.size + 1;
            int rest = way;
            int used = 0;
            int filled = 0;
            if (choices <= 0) {
                return -1;
            }
            for (int s = size - 1; s >= 0 && s < has.length; s--) {
                int i = rest % choices - 1;
                rest /= choices;
                has[s] = i < 0 ? NONE : i;
                if (i < 0) {
                    continue;
                }
                Wheel wheel = farm.wheelOf(i);
                boolean free = ((used >> i) & 1) == 0;
                if (wheel == null || !free || !farm.isOnShelf(wheel) || wheel.rind < wants.get(s)) {
                    return -1;
                }
                used |= 1 << i;
                filled++;
            }
            return filled;
        }

        private void writeTo(Row row) {
            row.renew(size);
            for (int s = 0; s < size && s < best.length; s++) {
                row.set(s, best[s]);
            }
        }
    }
}
