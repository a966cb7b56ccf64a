import java.math.BigInteger;
import java.util.ArrayList;
import java.util.Arrays;
import java.util.List;
import java.util.TreeMap;
import java.util.regex.Matcher;
import java.util.regex.Pattern;

/** The document once more, by other means and without regard to speed: whole states kept, all plans listed. */
final class Model {
    static final int BAD = -1, FULL = -2, FINDING = -3, STATE = -4, NONE = -9;

    /** A farm at one moment; what is changed is always a copy. */
    static final class Moment {
        int[][] held = new int[2][4];
        int day;
        int[] made = {NONE, NONE, NONE, NONE, NONE, NONE};
        int[] rind = {NONE, NONE, NONE, NONE, NONE, NONE};
        boolean[] sold = new boolean[6];

        Moment copy() {
            Moment m = new Moment();
            m.held = new int[][] {held[0].clone(), held[1].clone()};
            m.day = day;
            m.made = made.clone();
            m.rind = rind.clone();
            m.sold = sold.clone();
            return m;
        }

        int anger() {
            return Arrays.stream(held[0]).sum() + Arrays.stream(held[1]).sum();
        }

        Moment said(int matter) {
            Moment m = copy();
            for (int[] one : m.held) {
                one[matter] = Math.min(12, one[matter] + 3);
            }
            return m;
        }

        Moment passed() {
            Moment m = copy();
            m.day++;
            for (int who = 0; who < 2; who++) {
                for (int k = 0; k < 4; k++) {
                    m.held[who][k] = Math.max(0, held[who][k] - 1 - who);
                }
            }
            return m;
        }

        Moment through(int... plan) {
            Moment m = this;
            for (int saying : plan) {
                m = (saying == NONE ? m : m.said(saying)).passed();
            }
            return m;
        }

        Moment forgot(int who, int matter) {
            Moment m = copy();
            m.held[who][matter] = 0;
            return m;
        }
    }

    final int[][] rows = new int[6][];
    final byte[][] texts = new byte[4][];
    String wheels = "";
    int limit;
    List<Moment> story = new ArrayList<>(List.of(new Moment()));
    final List<List<Moment>> kept = new ArrayList<>(Arrays.asList(null, null, null));
    int asked;
    long upper;
    long lower = 1;
    int latest;
    final int[] times = new int[6];

    Moment now() {
        return story.get(story.size() - 1);
    }

    int deeds() {
        return story.size() - 1;
    }

    int many() {
        return wheels.length() / 3;
    }

    private int finds(int f) {
        latest = f;
        times[f]++;
        return FINDING;
    }

    private int tells(int v) {
        asked = v;
        return 1;
    }

    private static boolean out(int v, int least, int most) {
        return v < least || v > most;
    }

    int row(int r, int n) {
        if (out(r, 0, 5) || n > 40) return BAD;
        if (n < 0) return finds(5);
        rows[r] = new int[n];
        return n;
    }

    int lay(int r, int i, int v) {
        int got = at(r, i);
        if (got == 1) rows[r][i] = v;
        return got;
    }

    int at(int r, int i) {
        if (out(r, 0, 5)) return BAD;
        if (rows[r] == null) return finds(1);
        if (out(i, 0, rows[r].length - 1)) return finds(2);
        return tells(rows[r][i]);
    }

    int tear(int r) {
        if (out(r, 0, 5)) return BAD;
        if (rows[r] == null) return finds(1);
        rows[r] = null;
        return 1;
    }

    int copy(int r, int i, int to, int j, int n) {
        if (out(r, 0, 5) || out(to, 0, 5)) return BAD;
        if (n < 0) return finds(5);
        if (rows[r] == null || rows[to] == null) return finds(1);
        if (i < 0 || j < 0 || (long) i + n > rows[r].length || (long) j + n > rows[to].length) return finds(2);
        int[] taken = rows[r].clone();
        for (int k = 0; k < n; k++) rows[to][j + k] = taken[i + k];
        return 1;
    }

    int mean(int r) {
        if (out(r, 0, 5)) return BAD;
        if (rows[r] == null) return finds(1);
        if (rows[r].length == 0) return finds(4);
        BigInteger sum = BigInteger.ZERO;
        for (int v : rows[r]) sum = sum.add(BigInteger.valueOf(v));
        return tells(sum.divide(BigInteger.valueOf(rows[r].length)).intValueExact());
    }

    int text(int t, int n) {
        if (out(t, 0, 3) || n > 60) return BAD;
        if (n < 0) return finds(5);
        texts[t] = new byte[n];
        Arrays.fill(texts[t], (byte) 32);
        return n;
    }

    int put(int t, int i, int v) {
        if (out(t, 0, 3)) return BAD;
        if (texts[t] == null) return finds(1);
        if (out(i, 0, texts[t].length - 1)) return finds(2);
        int was = texts[t][i];
        texts[t][i] = (byte) v;
        return 1000 + was;
    }

    private static final Pattern FARM = Pattern.compile(" *a[0-9]{8}([0-9]{2})((?: *[woysrl][1-9][0-9]){1,6}) *");

    private String signs(int t) {
        char[] signs = new char[texts[t].length];
        for (int i = 0; i < signs.length; i++) signs[i] = (char) (texts[t][i] & 255);
        return new String(signs);
    }

    /** The shortest beginning that nothing could be put behind so that it fits tells the place. */
    private static int faultOf(String signs) {
        Matcher limits = Pattern.compile(" *a[0-9]{8}([0-9]{2})").matcher(signs);
        if (limits.lookingAt() && out(Integer.parseInt(limits.group(1)), 1, 60)) return limits.start(1);
        for (int n = 1; n <= signs.length(); n++) {
            Matcher m = FARM.matcher(signs.substring(0, n));
            if (!m.matches() && !m.hitEnd()) return n - 1;
        }
        return FARM.matcher(signs).matches() ? NONE : signs.length();
    }

    int fault(int t) {
        if (out(t, 0, 3)) return BAD;
        if (texts[t] == null) return finds(1);
        return faultOf(signs(t));
    }

    int farm(int t) {
        int fault = fault(t);
        if (fault == BAD || fault == FINDING) return fault;
        if (fault != NONE) return STATE;
        Matcher m = FARM.matcher(signs(t));
        m.matches();
        String packed = signs(t).replace(" ", "");
        limit = Integer.parseInt(packed.substring(9, 11));
        wheels = packed.substring(11);
        Moment first = new Moment();
        for (int k = 0; k < 8; k++) first.held[k / 4][k % 4] = packed.charAt(1 + k) - '0';
        story = new ArrayList<>(List.of(first));
        for (int k = 0; k < 3; k++) kept.set(k, null);
        return many();
    }

    private int kind(int i) {
        return "woysrl".indexOf(wheels.charAt(3 * i));
    }

    private int keeps(int i) {
        return wheels.charAt(3 * i + 1) - '0';
    }

    private int salt(int i) {
        return wheels.charAt(3 * i + 2) - '0';
    }

    int rind(int kind, int salt, int anger) {
        boolean silent = anger >= limit;
        if (kind == 0) return silent ? 2 * (salt + anger / 4) : salt + anger / 4;
        if (kind == 1) return rind(0, salt, anger) + 2;
        if (kind == 2) return rind(0, salt, anger) / 2;
        if (kind == 3) return Math.min(20, rind(1, salt, anger));
        if (kind == 4) return silent ? rind(2, salt, anger) : 0;
        return rind(3, salt, anger) + 5;
    }

    private static boolean is(int own, int kind) {
        int[] of = {-1, 0, 0, 1, 2, 3};
        return own == kind || own > 0 && is(of[own], kind);
    }

    private boolean shelved(int i) {
        Moment m = now();
        return m.made[i] != NONE && !m.sold[i] && m.day < m.made[i] + keeps(i);
    }

    private int wheelTells(int i, int what) {
        int[] all = {kind(i), keeps(i), salt(i), now().made[i], now().rind[i], shelved(i) ? 1 : 0,
            rind(kind(i), salt(i), now().anger())};
        return all[what];
    }

    int wheel(int i, int what) {
        if (out(i, 0, many() - 1) || out(what, 0, 6)) return BAD;
        return tells(wheelTells(i, what));
    }

    int mark(int i, int kind) {
        if (out(i, 0, many() - 1) || out(kind, 1, 5)) return BAD;
        if (!is(kind(i), kind)) return finds(3);
        int own = wheelTells(i, 6);
        int anger = now().anger();
        if (kind == 1) return own - rind(0, salt(i), anger) + 100;
        if (kind == 2) return rind(0, salt(i), anger) - own;
        if (kind == 3) return rind(1, salt(i), anger) - own + 100;
        if (kind == 4) return own == 0 ? 1 : 0;
        int both = 0;
        for (int k = 0; k < 4; k++) if (now().held[0][k] * now().held[1][k] != 0) both++;
        return both;
    }

    int holds(int who, int matter) {
        return out(who, 0, 1) || out(matter, 0, 3) ? BAD : now().held[who][matter];
    }

    private static int[] nothing(int n) {
        int[] plan = new int[n];
        Arrays.fill(plan, NONE);
        return plan;
    }

    int anger(int n) {
        if (out(n, 0, 20)) return BAD;
        if (many() == 0) return STATE;
        int then = now().through(nothing(n)).anger();
        tells(then >= limit ? 1 : 0);
        return then;
    }

    private int deed(Moment next) {
        story.add(next);
        return next.anger();
    }

    int day() {
        if (many() == 0) return STATE;
        return deeds() == 40 ? FULL : deed(now().passed());
    }

    int say(int matter) {
        if (out(matter, 0, 3)) return BAD;
        if (many() == 0) return STATE;
        return deeds() == 40 ? FULL : deed(now().said(matter));
    }

    int make(int i) {
        if (out(i, 0, many() - 1)) return BAD;
        if (now().made[i] != NONE) return STATE;
        if (deeds() == 40) return FULL;
        Moment m = now().copy();
        m.made[i] = m.day;
        m.rind[i] = wheelTells(i, 6);
        deed(m);
        return m.rind[i];
    }

    int sell(int i) {
        if (out(i, 0, many() - 1)) return BAD;
        if (!shelved(i)) return STATE;
        if (deeds() == 40) return FULL;
        Moment m = now().copy();
        m.sold[i] = true;
        deed(m);
        return m.rind[i];
    }

    int undo(int n) {
        if (out(n, 0, deeds())) return BAD;
        int gone = deeds() - n;
        story = new ArrayList<>(story.subList(0, n + 1));
        return gone;
    }

    int keep(int k) {
        if (out(k, 0, 2)) return BAD;
        if (many() == 0) return STATE;
        kept.set(k, new ArrayList<>(story));
        return deeds();
    }

    int on(int k) {
        if (out(k, 0, 2)) return BAD;
        if (kept.get(k) == null) return finds(1);
        story = new ArrayList<>(kept.get(k));
        return deeds();
    }

    int peace() {
        if (many() == 0) return STATE;
        int days = 0;
        while (now().through(nothing(days)).anger() >= limit) days++;
        tells(now().through(nothing(days)).anger());
        return days;
    }

    private static List<int[]> plans(int n) {
        List<int[]> all = new ArrayList<>(List.of(new int[0]));
        for (int d = 0; d < n; d++) {
            List<int[]> longer = new ArrayList<>();
            for (int[] plan : all) {
                for (int saying : new int[] {NONE, 0, 1, 2, 3}) {
                    int[] more = Arrays.copyOf(plan, d + 1);
                    more[d] = saying;
                    longer.add(more);
                }
            }
            all = longer;
        }
        return all;
    }

    private static int sayings(int[] plan) {
        return (int) Arrays.stream(plan).filter(s -> s != NONE).count();
    }

    int plan(int i, int n, int v, int r) {
        if (out(i, 0, many() - 1) || out(n, 0, 5) || out(v, 0, 60) || out(r, 0, 5)) return BAD;
        int[] best = null;
        for (int[] plan : plans(n)) {
            boolean thick = rind(kind(i), salt(i), now().through(plan).anger()) >= v;
            if (thick && (best == null || sayings(plan) < sayings(best))) best = plan;
        }
        if (best == null) return NONE;
        rows[r] = best.clone();
        return sayings(best);
    }

    int through(int r) {
        if (out(r, 0, 5)) return BAD;
        if (many() == 0) return STATE;
        if (rows[r] == null) return finds(1);
        if (rows[r].length > 20) return finds(5);
        for (int v : rows[r]) if (v != NONE && out(v, 0, 3)) return finds(3);
        int silent = 0;
        for (int d = 0; d < rows[r].length; d++) {
            if (now().through(Arrays.copyOf(rows[r], d)).anger() >= limit) silent++;
        }
        tells(silent);
        return now().through(rows[r]).anger();
    }

    private int angersRefused(int r) {
        if (out(r, 0, 5)) return BAD;
        if (many() == 0) return STATE;
        if (rows[r] == null) return finds(1);
        if (out(rows[r].length, 1, 4)) return finds(5);
        for (int v : rows[r]) if (out(v, 0, 100)) return finds(3);
        return 0;
    }

    private List<int[]> plansBy(int[] angers) {
        List<int[]> fitting = plans(angers.length);
        for (int d = 1; d <= angers.length; d++) {
            int days = d;
            fitting.removeIf(plan -> now().through(Arrays.copyOf(plan, days)).anger() != angers[days - 1]);
        }
        return fitting;
    }

    int about(int r) {
        int refused = angersRefused(r);
        if (refused != 0) return refused;
        List<int[]> fitting = plansBy(rows[r]);
        upper = fitting.size();
        lower = 1;
        return tells(fitting.isEmpty() ? NONE : fitting.get(0)[0]);
    }

    int sure(int r) {
        int refused = angersRefused(r);
        if (refused != 0) return refused;
        List<int[]> fitting = plansBy(rows[r]);
        if (fitting.isEmpty()) return finds(4);
        int all = 0;
        int none = 0;
        for (int m = 0; m < 4; m++) {
            int matter = m;
            long said = fitting.stream().filter(plan -> Arrays.stream(plan).anyMatch(s -> s == matter)).count();
            if (said == fitting.size()) all |= 1 << m;
            if (said == 0) none |= 1 << m;
        }
        tells(none);
        return all;
    }

    private int pairsRefused(int i, int r) {
        if (out(i, 0, many() - 1) || out(r, 0, 5)) return BAD;
        if (rows[r] == null) return finds(1);
        if (rows[r].length % 2 == 1) return finds(5);
        for (int k = 0; k < rows[r].length; k += 2) {
            if (out(rows[r][k], 0, 100) || out(rows[r][k + 1], 0, 99)) return finds(3);
        }
        return 0;
    }

    private boolean fits(int kind, int salt, int r) {
        boolean fits = true;
        for (int k = 0; k < rows[r].length; k += 2) fits &= rind(kind, salt, rows[r][k]) == rows[r][k + 1];
        return fits;
    }

    int salts(int i, int r) {
        int refused = pairsRefused(i, r);
        if (refused != 0) return refused;
        int bits = 0;
        for (int salt = 0; salt <= 9; salt++) if (fits(kind(i), salt, r)) bits += 1 << salt;
        return bits;
    }

    int kinds(int i, int r) {
        int refused = pairsRefused(i, r);
        if (refused != 0) return refused;
        int bits = 0;
        for (int kind = 0; kind <= 5; kind++) if (fits(kind, salt(i), r)) bits += 1 << kind;
        return bits;
    }

    int test(int i, int r) {
        int bits = kinds(i, r);
        if (bits < 0) return bits;
        if (bits == 0) return NONE;
        TreeMap<Integer, Integer> firsts = new TreeMap<>();
        for (int anger = 0; anger <= 100; anger++) {
            TreeMap<Integer, Integer> parts = new TreeMap<>();
            for (int kind = 0; kind <= 5; kind++) {
                if ((bits >> kind) % 2 == 1) parts.merge(rind(kind, salt(i), anger), 1, Integer::sum);
            }
            firsts.putIfAbsent(parts.values().stream().max(Integer::compare).get(), anger);
        }
        tells(firsts.firstKey());
        return firsts.firstEntry().getValue();
    }

    private void ways(int[] wants, List<Integer> way, List<int[]> all) {
        if (way.size() == wants.length) {
            all.add(way.stream().mapToInt(Integer::intValue).toArray());
            return;
        }
        for (int i = -1; i < many(); i++) {
            if (i >= 0 && (way.contains(i) || !shelved(i) || now().rind[i] < wants[way.size()])) continue;
            List<Integer> more = new ArrayList<>(way);
            more.add(i < 0 ? NONE : i);
            ways(wants, more, all);
        }
    }

    int shows(int r, int to) {
        if (out(r, 0, 5) || out(to, 0, 5)) return BAD;
        if (many() == 0) return STATE;
        if (rows[r] == null) return finds(1);
        if (rows[r].length > 4) return finds(5);
        for (int v : rows[r]) if (out(v, 0, 99)) return finds(3);
        List<int[]> all = new ArrayList<>();
        ways(rows[r], new ArrayList<>(), all);
        int[] best = all.get(0);
        for (int[] way : all) if (sayings(way) > sayings(best)) best = way;
        rows[to] = best.clone();
        return sayings(best);
    }

    private static int contest(Moment m, int turns, boolean nephew) {
        if (turns == 0) return m.anger();
        int best = contest(m, turns - 1, !nephew);
        for (int k = 0; k < 4; k++) {
            if (nephew) {
                best = Math.max(best, contest(m.said(k), turns - 1, false));
            } else {
                best = Math.min(best, contest(m.forgot(0, k), turns - 1, true));
                best = Math.min(best, contest(m.forgot(1, k), turns - 1, true));
            }
        }
        return best;
    }

    int duel(int n) {
        if (out(n, 0, 5)) return BAD;
        return many() == 0 ? STATE : contest(now(), n, true);
    }

    /** Silence and anger by 12 to the days left. */
    private BigInteger[] chances(Moment m, int days, int matter, int p) {
        if (days == 0) return new BigInteger[] {m.anger() >= limit ? BigInteger.ONE : BigInteger.ZERO, BigInteger.valueOf(m.anger())};
        BigInteger[] said = chances(m.said(matter).passed(), days - 1, matter, p);
        BigInteger[] not = chances(m.passed(), days - 1, matter, p);
        BigInteger[] sum = new BigInteger[2];
        for (int k = 0; k < 2; k++) {
            sum[k] = said[k].multiply(BigInteger.valueOf(p)).add(not[k].multiply(BigInteger.valueOf(12 - p)));
        }
        return sum;
    }

    private int chance(int n, int matter, int p, int which) {
        if (out(n, 0, 6) || out(matter, 0, 3) || out(p, 0, 12)) return BAD;
        if (many() == 0) return STATE;
        BigInteger above = chances(now(), n, matter, p)[which];
        BigInteger below = BigInteger.valueOf(12).pow(n);
        BigInteger part = above.gcd(below);
        upper = above.divide(part).longValueExact();
        lower = below.divide(part).longValueExact();
        return 1;
    }

    int odds(int n, int matter, int p) {
        return chance(n, matter, p, 0);
    }

    int mid(int n, int matter, int p) {
        return chance(n, matter, p, 1);
    }

    int lots(int n, int seed) {
        if (out(n, 1, 20) || out(seed, 1, 2147483646)) return BAD;
        if (many() == 0) return STATE;
        if (deeds() + n > 40) return FULL;
        BigInteger number = BigInteger.valueOf(seed);
        for (int k = 0; k < n; k++) {
            number = number.multiply(BigInteger.valueOf(48271)).mod(BigInteger.valueOf(2147483647));
            int third = number.mod(BigInteger.valueOf(3)).intValue();
            int eighth = number.divide(BigInteger.valueOf(8)).intValue();
            if (third == 0) {
                say(eighth % 4);
            } else if (third != 1 || make(eighth % many()) == STATE) {
                day();
            }
        }
        return now().anger();
    }

    int count(int what) {
        int shelf = 0;
        int thick = 0;
        int old = 0;
        for (int i = 0; i < many(); i++) {
            shelf |= shelved(i) ? 1 << i : 0;
            thick += shelved(i) ? now().rind[i] : 0;
            old += is(kind(i), 1) ? 1 : 0;
        }
        int rowsThere = (int) Arrays.stream(rows).filter(row -> row != null).count();
        int textsThere = (int) Arrays.stream(texts).filter(text -> text != null).count();
        int keptThere = (int) kept.stream().filter(farm -> farm != null).count();
        int[] all = {many(), now().day, deeds(), now().anger(), many() > 0 && now().anger() >= limit ? 1 : 0, shelf, thick, old,
            rowsThere, textsThere, keptThere};
        return out(what, 0, 10) ? BAD : all[what];
    }

    int findings(int f) {
        return out(f, 1, 5) ? BAD : times[f];
    }

    long digest() {
        List<Integer> all = new ArrayList<>();
        for (int what = 0; what <= 10; what++) all.add(count(what));
        for (int[] one : now().held) for (int v : one) all.add(v);
        for (int i = 0; i < many(); i++) for (int what = 0; what <= 6; what++) all.add(wheelTells(i, what));
        for (List<Moment> farm : kept) all.add(farm == null ? -1 : farm.size() - 1);
        for (int[] row : rows) {
            all.add(row == null ? -1 : row.length);
            if (row != null) for (int v : row) all.add(v);
        }
        for (byte[] text : texts) {
            all.add(text == null ? -1 : text.length);
            if (text != null) for (byte v : text) all.add((int) v);
        }
        long h = 17;
        for (int v : all) h = 31 * h + v;
        return h;
    }
}
