/** Long runs of calls, well and ill told, on the class and on the Model: all answers and all that is told are the same. */
public final class ModelTest {
    private static final String[] CALLS = {"row", "lay", "at", "tear", "copy", "mean", "text", "put", "fault", "farm", "wheel", "mark",
        "holds", "anger", "day", "say", "make", "sell", "undo", "keep", "on", "peace", "plan", "through", "about", "sure", "salts",
        "kinds", "test", "shows", "duel", "odds", "mid", "lots", "count", "findings"};
    private static final int[] WEIRD = {Integer.MIN_VALUE, Integer.MIN_VALUE + 1, -10, -9, -1, 41, 61, 101, Integer.MAX_VALUE - 1, Integer.MAX_VALUE};
    private static final String ANY_SIGN = "awoysrl0123456789  Wx";

    private static long state = 20261119;
    private static final int[] well = new int[CALLS.length];
    /** Of one object: at most 512 are promised, and one step of a run makes some 85 at most. */
    private static final int MOST_CALLS = 512 - 85;
    private static int calls;

    private static int lot(int below) {
        state = state * 6364136223846793005L + 1442695040888963407L;
        return (int) Long.remainderUnsigned(state >>> 17, below);
    }

    /** Mostly from 0 on, now and then one beyond, seldom far off. */
    private static int arg(int most) {
        int which = lot(60);
        if (which == 0) {
            return WEIRD[lot(WEIRD.length)];
        }
        return which < 3 ? most + 1 : which == 3 ? -1 : lot(most + 1);
    }

    private static String farmSigns() {
        StringBuilder s = new StringBuilder();
        String blanks = lot(3) == 0 ? " " : "";
        s.append(blanks).append('a');
        int most = 1 + lot(10);
        for (int k = 0; k < 8; k++) {
            s.append((char) ('0' + lot(most)));
        }
        int limit = lot(20) == 0 ? lot(100) : 1 + lot(lot(2) == 0 ? 60 : 24);
        s.append((char) ('0' + limit / 10)).append((char) ('0' + limit % 10));
        int wheels = lot(20) == 0 ? lot(8) : 1 + lot(6);
        for (int k = 0; k < wheels; k++) {
            s.append(lot(2) == 0 ? " " : blanks).append("woysrl".charAt(lot(6)));
            s.append((char) ('1' + lot(9))).append((char) ('0' + lot(10)));
        }
        int slips = lot(4) == 0 ? 1 + lot(2) : 0;
        for (int k = 0; k < slips; k++) {
            s.setCharAt(lot(s.length()), ANY_SIGN.charAt(lot(ANY_SIGN.length())));
        }
        if (lot(8) == 0) {
            s.setLength(lot(s.length() + 1));
        }
        return s.toString();
    }

    private static void writeText(RindDates x, Model m) {
        String signs = farmSigns();
        int t = lot(4);
        same("text", 0, x.text(t, signs.length()), m.text(t, signs.length()));
        for (int i = 0; i < signs.length() && i < 60; i++) {
            int v = signs.charAt(i) + (lot(30) == 0 ? 256 * (lot(5) - 2) : 0);
            same("put", i, x.put(t, i, v), m.put(t, i, v));
        }
        told("fault", x.fault(t), m.fault(t));
        told("farm", x.farm(t), m.farm(t));
    }

    /** A row of a likely use: a plan, angers as they would be, pairs as they would be, shows. */
    private static void writeRow(RindDates x, Model m) {
        int r = lot(6);
        int use = lot(4);
        int n = use == 0 ? lot(8) : use == 1 ? 1 + lot(4) : use == 2 ? 2 * lot(3) : lot(5);
        same("row", n, x.row(r, n), m.row(r, n));
        Model.Moment then = m.now();
        int kind = lot(6);
        int salt = lot(10);
        int anger = 0;
        for (int i = 0; i < n; i++) {
            int v = lot(5) - 1;
            v = v < 0 ? Model.NONE : v;
            then = then.through(v);
            if (use == 1) {
                v = then.anger();
            } else if (use == 2) {
                anger = i % 2 == 0 ? lot(101) : anger;
                v = i % 2 == 0 ? anger : m.rind(kind, salt, anger);
            } else if (use == 3) {
                v = lot(25);
            }
            v = lot(40) == 0 ? WEIRD[lot(WEIRD.length)] : v;
            same("lay", v, x.lay(r, i, v), m.lay(r, i, v));
        }
        int i = lot(6);
        told("through", x.through(r), m.through(r));
        told("about", x.about(r), m.about(r));
        told("sure", x.sure(r), m.sure(r));
        told("salts", x.salts(i, r), m.salts(i, r));
        told("kinds", x.kinds(i, r), m.kinds(i, r));
        told("test", x.test(i, r), m.test(i, r));
        told("shows", x.shows(r, r), m.shows(r, r));
    }

    private static void same(String call, int first, long got, long want) {
        calls++;
        Due.is(call + "(" + first + ", ..)", got, want);
    }

    /** As same(), and counted where it is no refusal. */
    private static void told(String call, int got, int want) {
        for (int which = 0; which < CALLS.length && want >= 0; which++) {
            well[which] += CALLS[which].equals(call) ? 1 : 0;
        }
        same(call, 0, got, want);
    }

    private static void rowsCall(int which, RindDates x, Model m) {
        int r = arg(5), i = arg(6), to = arg(5), j = arg(6), n = arg(lot(3) == 0 ? 40 : 5);
        int v = lot(3) == 0 ? WEIRD[lot(WEIRD.length)] : lot(40);
        int t = arg(3), few = arg(3);
        switch (CALLS[which]) {
            case "row": told(CALLS[which], x.row(r, n), m.row(r, n)); break;
            case "lay": told(CALLS[which], x.lay(r, i, v), m.lay(r, i, v)); break;
            case "at": told(CALLS[which], x.at(r, i), m.at(r, i)); break;
            case "tear": told(CALLS[which], x.tear(r), m.tear(r)); break;
            case "copy": told(CALLS[which], x.copy(r, i, to, j, few), m.copy(r, i, to, j, few)); break;
            case "mean": told(CALLS[which], x.mean(r), m.mean(r)); break;
            case "text": told(CALLS[which], x.text(t, n), m.text(t, n)); break;
            case "put": told(CALLS[which], x.put(t, i, v), m.put(t, i, v)); break;
            case "fault": told(CALLS[which], x.fault(t), m.fault(t)); break;
            default: told(CALLS[which], x.farm(t), m.farm(t)); break;
        }
    }

    private static void farmCall(int which, RindDates x, Model m) {
        int i = arg(m.many() > 0 ? m.many() - 1 : 0), what = arg(6), who = arg(1), matter = arg(3), n = arg(20);
        int deed = arg(m.deeds()), k = arg(2);
        switch (CALLS[which]) {
            case "wheel": told(CALLS[which], x.wheel(i, what), m.wheel(i, what)); break;
            case "mark": told(CALLS[which], x.mark(i, what), m.mark(i, what)); break;
            case "holds": told(CALLS[which], x.holds(who, matter), m.holds(who, matter)); break;
            case "anger": told(CALLS[which], x.anger(n), m.anger(n)); break;
            case "day": told(CALLS[which], x.day(), m.day()); break;
            case "say": told(CALLS[which], x.say(matter), m.say(matter)); break;
            case "make": told(CALLS[which], x.make(i), m.make(i)); break;
            case "sell": told(CALLS[which], x.sell(i), m.sell(i)); break;
            case "undo": told(CALLS[which], x.undo(deed), m.undo(deed)); break;
            case "keep": told(CALLS[which], x.keep(k), m.keep(k)); break;
            default: told(CALLS[which], x.on(k), m.on(k)); break;
        }
    }

    private static void costlyCall(int which, RindDates x, Model m) {
        int i = arg(m.many() > 0 ? m.many() - 1 : 0), n = arg(lot(6) == 0 ? 5 : 3), v = arg(lot(2) == 0 ? 60 : 20), r = arg(5), to = arg(5);
        int days = arg(6), matter = arg(3), p = arg(12), many = arg(20), f = arg(5), what = arg(10);
        int seed = lot(10) == 0 ? WEIRD[lot(WEIRD.length)] : 1 + lot(2147483646);
        switch (CALLS[which]) {
            case "peace": told(CALLS[which], x.peace(), m.peace()); break;
            case "plan": told(CALLS[which], x.plan(i, n, v, r), m.plan(i, n, v, r)); break;
            case "through": told(CALLS[which], x.through(r), m.through(r)); break;
            case "about": told(CALLS[which], x.about(r), m.about(r)); break;
            case "sure": told(CALLS[which], x.sure(r), m.sure(r)); break;
            case "salts": told(CALLS[which], x.salts(i, r), m.salts(i, r)); break;
            case "kinds": told(CALLS[which], x.kinds(i, r), m.kinds(i, r)); break;
            case "test": told(CALLS[which], x.test(i, r), m.test(i, r)); break;
            case "shows": told(CALLS[which], x.shows(r, to), m.shows(r, to)); break;
            case "duel": told(CALLS[which], x.duel(n), m.duel(n)); break;
            case "odds": told(CALLS[which], x.odds(days, matter, p), m.odds(days, matter, p)); break;
            case "mid": told(CALLS[which], x.mid(days, matter, p), m.mid(days, matter, p)); break;
            case "lots": told(CALLS[which], x.lots(many, seed), m.lots(many, seed)); break;
            case "count": told(CALLS[which], x.count(what), m.count(what)); break;
            default: told(CALLS[which], x.findings(f), m.findings(f)); break;
        }
    }

    private static void run() {
        RindDates x = new RindDates();
        Model m = new Model();
        calls = 0;
        if (lot(20) != 0) {
            writeText(x, m);
        }
        for (int k = 0; calls < MOST_CALLS; k++) {
            if (lot(60) == 0) {
                writeText(x, m);
            }
            if (lot(8) == 0) {
                writeRow(x, m);
            }
            int which = lot(CALLS.length);
            which = CALLS[which].equals("tear") && lot(4) != 0 ? 1 : which;
            if (which < 10) {
                rowsCall(which, x, m);
            } else if (which < 21) {
                farmCall(which, x, m);
            } else {
                costlyCall(which, x, m);
            }
            same("asked() behind " + CALLS[which], k, x.asked(), m.asked);
            same("upper() behind " + CALLS[which], k, x.upper(), m.upper);
            same("lower() behind " + CALLS[which], k, x.lower(), m.lower);
            same("finding() behind " + CALLS[which], k, x.finding(), m.latest);
            same("digest() behind " + CALLS[which], k, x.digest(), m.digest());
        }
    }

    public static void main(String[] args) {
        int runs = args.length > 0 ? Integer.parseInt(args[0]) : 2500;
        state += args.length > 1 ? Long.parseLong(args[1]) : 0;
        for (int k = 0; k < runs; k++) {
            run();
        }
        for (int which = 0; which < CALLS.length; which++) {
            if (args.length > 0) {
                System.out.println(CALLS[which] + ": " + well[which]);
            }
            Due.is(CALLS[which] + " answered well often enough", well[which] >= runs / 40 ? 1 : 0, 1);
        }
        Due.close("ModelTest");
    }
}
