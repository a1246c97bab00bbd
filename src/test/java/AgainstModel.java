import java.util.ArrayList;
import java.util.Arrays;
import java.util.List;

/** Long runs of calls on the class and on a second, slower program of the document, which must answer alike. */
public final class AgainstModel {
    private static final int RUNS = 400;
    private static final int CALLS = 512;
    private static final String[] NAMES = {"person", "of", "heart", "set", "turn", "as", "news", "load", "at",
        "hang", "take", "bag", "minutes", "now", "on", "tilt", "level", "mixed", "match", "seats", "weights",
        "sorrow", "kind", "delay", "fewest", "helps", "feed", "wipe", "park", "sheet", "write", "copy", "lays",
        "book", "read", "image", "undo", "tear", "count", "status"};
    private static final String[] WORDS = {"man", "girl", "child", "mayor", "orphan", "widow", "glad", "sorry",
        "on", "bag", "news", ";", " ", "0", "1", "7", "20", "21", "99", "100", "mann", "!", "hat"};

    private static long seed;
    // In every other run feelings are small and minutes few, so that it comes level often and widows are not eased.
    private static boolean isCalm;

    /** A number from 0 to n - 1, the same ones on each run of the test. */
    private static int dice(int n) {
        seed = seed * 6364136223846793005L + 1442695040888963407L;
        return (int) ((seed >>> 33) % n);
    }

    private static int one() {
        return dice(25) == 0 ? odd() : dice(8);
    }

    private static int odd() {
        int[] all = {-1, -2, 6, 8, 9, 21, 41, 61, 100, 101, Integer.MIN_VALUE, Integer.MAX_VALUE};
        return all[dice(all.length)];
    }

    /** From least to most, and seldom one that may not be. */
    private static int within(int least, int most) {
        int r = dice(30);
        if (r == 0) {
            return odd();
        }
        if (r == 1) {
            return dice(2) == 0 ? least - 1 : most + 1;
        }
        return least + dice(most - least + 1);
    }

    /** Small ones more often, as they come level sooner. */
    private static int feeling() {
        int r = dice(4);
        if (isCalm) {
            return within(0, r == 0 ? 20 : 6);
        }
        return r == 0 ? within(0, 99) : r == 1 ? within(0, 3) : within(0, 20);
    }

    private static int number(String call, int i) {
        switch (call + i) {
            case "person0": case "turn1": case "as1":
                return within(0, 5);
            case "of1":
                return within(0, 4);
            case "set1":
                return within(1, 3);
            case "news1": case "news2":
                return feeling();
            case "load0": case "at0": case "hang0": case "take0": case "fewest0": case "delay1": case "helps1":
                return within(0, 1);
            case "bag0":
                return within(0, 20);
            case "minutes0":
                return dice(2) == 0 ? within(1, 3) : within(1, 30);
            case "now0":
                return within(0, 6);
            case "on1": case "tilt0":
                return dice(2) == 0 ? within(0, 4) : within(0, 100);
            case "on2":
                return within(0, 1);
            case "delay2":
                return dice(2) == 0 ? within(1, 9) : within(1, 60);
            case "helps2":
                return within(0, 60);
            case "sheet0": case "write0": case "copy0": case "copy2": case "lays0": case "book0": case "read0":
                return within(0, 3);
            case "sheet1":
                return dice(30) == 0 ? odd() : new int[] {8, 16, 64, 8, 16, 64, 0, 32}[dice(8)];
            case "sheet2":
                return dice(2) == 0 ? within(0, 4) : within(0, 40);
            case "write1": case "copy1": case "copy3": case "copy4":
                return within(0, 5);
            case "count0":
                return within(0, 3);
            case "status0":
                return within(-1, 6);
            default:
                return one();
        }
    }

    private static String text() {
        StringBuilder all = new StringBuilder();
        int items = 1 + dice(4);
        for (int k = 0; k < items; k++) {
            all.append(k == 0 ? "" : dice(2) == 0 ? ";" : " ; ").append(item());
        }
        int spoilt = dice(3);
        if (spoilt == 0) {
            all.insert(dice(all.length() + 1), WORDS[dice(WORDS.length)]);
        } else if (spoilt == 1 && dice(2) == 0) {
            all.setLength(dice(all.length() + 1));
        }
        return all.length() > 120 ? all.substring(0, 120) : all.toString();
    }

    private static String item() {
        int r = dice(4);
        if (r == 0) {
            return "bag " + dice(22);
        }
        if (r == 1) {
            return "news " + dice(6) + " " + dice(102) + " " + dice(40);
        }
        return WORDS[dice(6)] + (dice(2) == 0 ? " glad " + dice(30) : "") + (dice(2) == 0 ? " sorry " + dice(30) : "")
            + (dice(3) > 0 ? " on " + dice(dice(20) == 0 ? 3 : 2) : "");
    }

    private static long ask(SeeSawHearts x, String call, int[] a, long v) {
        switch (call) {
            case "person": return x.person(a[0]);
            case "of": return x.of(a[0], a[1]);
            case "heart": return x.heart(a[0]);
            case "set": return x.set(a[0], a[1], a[2]);
            case "turn": return x.turn(a[0], a[1]);
            case "as": return x.as(a[0], a[1]);
            case "news": return x.news(a[0], a[1], a[2]);
            case "load": return x.load(a[0]);
            case "at": return x.at(a[0]);
            case "hang": return x.hang(a[0]);
            case "take": return x.take(a[0]);
            case "bag": return x.bag(a[0]);
            case "minutes": return x.minutes(a[0]);
            case "now": return x.now(a[0]);
            case "on": return x.on(a[0], a[1], a[2]);
            case "tilt": return x.tilt(a[0]);
            case "level": return x.level();
            case "mixed": return x.mixed(a[0]);
            case "match": return x.match(a[0]);
            case "seats": return x.seats();
            case "weights": return x.weights();
            case "sorrow": return x.sorrow(a[0]);
            case "kind": return x.kind(a[0]);
            case "delay": return x.delay(a[0], a[1], a[2]);
            case "fewest": return x.fewest(a[0]);
            case "helps": return x.helps(a[0], a[1], a[2]);
            case "feed": return x.feed(a[0], a[1]);
            case "wipe": return x.wipe();
            case "park": return x.park();
            case "sheet": return x.sheet(a[0], a[1], a[2]);
            case "write": return x.write(a[0], a[1], v);
            case "copy": return x.copy(a[0], a[1], a[2], a[3], a[4]);
            case "lays": return x.lays(a[0]);
            case "book": return x.book(a[0]);
            case "read": return x.read(a[0], a[1]);
            case "image": return x.image();
            case "undo": return x.undo();
            case "tear": return x.tear();
            case "count": return x.count(a[0]);
            default: return x.status(a[0]);
        }
    }

    private static int wrong = 0;
    private static int calls = 0;

    /** Answers whether both answered alike; from the first difference on a run tells nothing more. */
    private static boolean alike(int run, SeeSawHearts x, Model m, String call, int[] a, long v) {
        long got = ask(x, call, a, v);
        long want = m.ask(call, a, v);
        calls++;
        if (got != want) {
            wrong++;
            System.out.println("run " + run + ": " + call + Arrays.toString(a) + " " + v + " answered " + got
                + ", due is " + want);
        }
        return got == want;
    }

    private static boolean step(int run, SeeSawHearts x, Model m) {
        String call = dice(6) == 0 ? "set" : NAMES[dice(NAMES.length)];
        int[] a = new int[5];
        for (int i = 0; i < 5; i++) {
            a[i] = number(call, i);
        }
        if (call.equals("set")) {
            a[2] = a[1] == 3 ? within(-1, 1) : feeling();
        }
        boolean isSpared = call.equals("wipe") || isCalm && (call.equals("minutes") || call.equals("hang"));
        if (isSpared && dice(3) > 0) {
            return true;
        }
        if (call.equals("read") && dice(3) > 0) {
            int[] laid = {a[0], new int[] {8, 16, 64}[dice(3)], dice(9)};
            return alike(run, x, m, "sheet", laid, 0) && alike(run, x, m, "book", a, 0)
                && alike(run, x, m, call, a, 0);
        }
        if (call.equals("feed") && dice(2) == 0) {
            return alike(run, x, m, "feed", new int[] {dice(Integer.MAX_VALUE) - (1 << 30), within(1, 4)}, 0);
        }
        if (call.equals("feed")) {
            return feedText(run, x, m, text());
        }
        if (call.equals("park") && dice(5) > 0) {
            return alike(run, x, m, "wipe", a, 0) && feedText(run, x, m, text()) && alike(run, x, m, call, a, 0);
        }
        long v = dice(3) == 0 ? ((long) dice(1 << 30) << 34) ^ dice(1 << 30) : dice(220) - 60;
        return alike(run, x, m, call, a, v);
    }

    private static boolean feedText(int run, SeeSawHearts x, Model m, String text) {
        for (int i = 0; i < text.length(); i += 4) {
            int n = Math.min(4, text.length() - i);
            int bytes = 0;
            for (int k = 0; k < n; k++) {
                bytes = bytes << 8 | text.charAt(i + k);
            }
            if (!alike(run, x, m, "feed", new int[] {bytes, n}, 0)) {
                return false;
            }
        }
        return true;
    }

    private static void run(int run) {
        seed = run;
        isCalm = run % 2 == 0;
        SeeSawHearts x = new SeeSawHearts();
        Model m = new Model();
        int until = calls + CALLS - 40;
        boolean same = true;
        int most = dice(9);
        for (int k = 0; same && k < most; k++) {
            same = alike(run, x, m, "person", new int[] {dice(6)}, 0)
                && alike(run, x, m, "set", new int[] {k, 3, dice(3) - 1}, 0);
        }
        while (same && calls < until) {
            same = step(run, x, m);
        }
    }

    public static void main(String[] args) {
        for (int k = 1; k <= RUNS; k++) {
            run(k);
        }
        System.out.println(wrong == 0 ? calls + " calls answered alike" : wrong + " runs differ");
        if (wrong != 0) {
            System.exit(1);
        }
    }
}

/** The kinds, each by what it does otherwise than the one above it. */
class Man {
    int glad;
    int sorry;
    int end = -1;

    int number() {
        return 0;
    }

    int heart(int minute) {
        return glad - sorry;
    }

    int mixes() {
        return 1;
    }

    static Man made(int kind) {
        switch (kind) {
            case 0: return new Man();
            case 1: return new Girl();
            case 2: return new Child();
            case 3: return new Mayor();
            case 4: return new Orphan();
            default: return new Widow();
        }
    }

    Man as(int kind) {
        Man other = made(kind);
        other.glad = glad;
        other.sorry = sorry;
        other.end = end;
        return other;
    }
}

class Girl extends Man {
    @Override int number() {
        return 1;
    }

    @Override int heart(int minute) {
        return super.heart(minute) - sorry / 2;
    }
}

class Child extends Man {
    @Override int number() {
        return 2;
    }

    @Override int heart(int minute) {
        return super.heart(minute) + super.heart(minute);
    }

    @Override int mixes() {
        return 3;
    }
}

class Mayor extends Man {
    @Override int number() {
        return 3;
    }

    @Override int heart(int minute) {
        return super.heart(minute) / 2;
    }

    @Override int mixes() {
        return 0;
    }
}

class Orphan extends Child {
    @Override int number() {
        return 4;
    }

    @Override int heart(int minute) {
        return super.heart(minute) - 3;
    }

    @Override int mixes() {
        return super.mixes() - 1;
    }
}

class Widow extends Girl {
    @Override int number() {
        return 5;
    }

    @Override int heart(int minute) {
        return minute < 40 ? super.heart(minute) : 0;
    }

    @Override int mixes() {
        return glad > 0 ? super.mixes() : 0;
    }
}

/** A finding on its way out of a call. */
class Found extends RuntimeException {
    private static final long serialVersionUID = 1;
    final int which;

    Found(int which) {
        super(null, null, false, false);
        this.which = which;
    }
}

/** What section 1 tells; every "what if" is tried on a copy of the whole. */
class Scene {
    int minute = 0;
    int bag = 10;
    int[] hung = {0, 0};
    List<Man> people = new ArrayList<>();

    Scene copied() {
        Scene other = new Scene();
        other.minute = minute;
        other.bag = bag;
        other.hung = hung.clone();
        for (Man p : people) {
            other.people.add(p.as(p.number()));
        }
        return other;
    }

    boolean hangs() {
        boolean here = false;
        boolean there = false;
        for (Man p : people) {
            here |= p.end == 0;
            there |= p.end == 1;
        }
        return here && there;
    }

    int load(int end) {
        int all = 0;
        for (Man p : people) {
            if (p.end == end) {
                all += p.heart(minute);
            }
        }
        return all - 2 * hung[end];
    }

    int tilt() {
        return hangs() ? load(0) + load(1) : 5000;
    }

    void minute() {
        if (hangs()) {
            for (Man p : people) {
                if (p.end >= 0) {
                    int gone = Math.min(p.mixes(), Math.abs(p.glad - p.sorry) / 2);
                    boolean isGlad = p.glad > p.sorry;
                    p.glad += isGlad ? -gone : gone;
                    p.sorry += isGlad ? gone : -gone;
                }
            }
        }
        minute++;
    }

    Scene on(int n) {
        Scene later = copied();
        for (int i = 0; i < n; i++) {
            later.minute();
        }
        return later;
    }

    Scene with(int p, int end) {
        Scene other = copied();
        other.people.get(p).end = end;
        return other;
    }

    void news(int p, int g, int s) {
        Man one = people.get(p);
        one.glad = Math.min(99, one.glad + g);
        one.sorry = Math.min(99, one.sorry + s);
    }

    int set(int end) {
        int all = 0;
        for (int p = 0; p < people.size(); p++) {
            if (people.get(p).end == end) {
                all += 1 << p;
            }
        }
        return all;
    }
}

class Model {
    private static final int BEYOND = 0;
    private static final int FULL = 1;
    private static final int KIND = 2;
    private static final int NONE = 3;
    private static final int STATE = 4;
    private static final int MISSING = 5;
    private static final int SIZE = 6;

    private Scene now = new Scene();
    private Scene kept = null;
    private String tape = "";
    private final long[][] sheets = new long[4][];
    private final int[] bits = new int[4];
    private final long[] findings = new long[7];

    long ask(String call, int[] a, long v) {
        try {
            switch (call) {
                case "load": case "at": case "hang": case "take": case "bag": case "minutes": case "now":
                case "on": case "tilt": case "level": case "mixed":
                    return beam(call, a);
                case "match": case "seats": case "weights": case "sorrow": case "kind": case "delay":
                case "fewest": case "helps":
                    return best(call, a);
                case "sheet": case "write": case "copy": case "lays": case "book": case "read":
                    return sheets(call, a, v);
                case "feed": case "wipe": case "park": case "image": case "undo": case "tear": case "count":
                case "status":
                    return rest(call, a);
                default:
                    return people(call, a);
            }
        } catch (Found f) {
            findings[f.which]++;
            return -1000000001L - f.which;
        }
    }

    private static void need(boolean holds, int which) {
        if (!holds) {
            throw new Found(which);
        }
    }

    private static int in(int v, int least, int most) {
        need(v >= least && v <= most, BEYOND);
        return v;
    }

    private Man one(int p) {
        return now.people.get(in(p, 0, now.people.size() - 1));
    }

    private long people(String call, int[] a) {
        if (call.equals("person")) {
            in(a[0], 0, 5);
            need(now.people.size() < 8, FULL);
            now.people.add(Man.made(a[0]));
            return now.people.size() - 1;
        }
        Man p = one(a[0]);
        switch (call) {
            case "of":
                return new int[] {p.number(), p.glad, p.sorry, p.end, p.mixes()}[in(a[1], 0, 4)];
            case "heart":
                return 1000 + p.heart(now.minute);
            case "set":
                in(a[1], 1, 3);
                in(a[2], a[1] == 3 ? -1 : 0, a[1] == 3 ? 1 : 99);
                int was = new int[] {0, p.glad, p.sorry, p.end}[a[1]];
                p.glad = a[1] == 1 ? a[2] : p.glad;
                p.sorry = a[1] == 2 ? a[2] : p.sorry;
                p.end = a[1] == 3 ? a[2] : p.end;
                return was;
            case "turn":
                now.people.set(a[0], p.as(in(a[1], 0, 5)));
                return p.number();
            case "as":
                need(Man.made(in(a[1], 0, 5)).getClass().isInstance(p), KIND);
                return p.glad;
            default:
                now.news(a[0], in(a[1], 0, 99), in(a[2], 0, 99));
                return 1000 + p.heart(now.minute);
        }
    }

    private long beam(String call, int[] a) {
        switch (call) {
            case "load":
                return 1000 + now.load(in(a[0], 0, 1));
            case "at":
                return now.set(in(a[0], 0, 1));
            case "hang":
                in(a[0], 0, 1);
                need(now.bag > 0, NONE);
                now.bag--;
                return ++now.hung[a[0]];
            case "take":
                in(a[0], 0, 1);
                need(now.hung[a[0]] > 0, NONE);
                need(now.bag < 20, FULL);
                now.bag++;
                return --now.hung[a[0]];
            case "bag":
                int was = now.bag;
                now.bag = in(a[0], 0, 20);
                return was;
            case "minutes":
                in(a[0], 1, 100);
                need(now.minute <= 99999 - a[0], STATE);
                now = now.on(a[0]);
                return 10000 + now.tilt();
            case "now":
                return now(in(a[0], 0, 6));
            case "on":
                Man p = one(a[0]);
                in(a[1], 0, 100);
                in(a[2], 0, 1);
                Man later = now.on(a[1]).people.get(now.people.indexOf(p));
                return a[2] == 0 ? later.glad : later.sorry;
            case "tilt":
                return 10000 + now.on(in(a[0], 0, 100)).tilt();
            default:
                return firstOn(call, a);
        }
    }

    private long firstOn(String call, int[] a) {
        if (call.equals("mixed")) {
            one(a[0]);
        }
        for (int n = 0; n <= 100; n++) {
            Scene later = now.on(n);
            if (call.equals("level") ? later.tilt() == 0
                : later.people.get(a[0]).glad == later.people.get(a[0]).sorry) {
                return n;
            }
        }
        throw new Found(NONE);
    }

    private long now(int what) {
        int glad = 0;
        int sorry = 0;
        for (Man p : now.people) {
            glad += p.glad;
            sorry += p.sorry;
        }
        return new int[] {now.minute, now.bag, 10000 + now.tilt(), now.tilt() == 0 ? 1 : 0,
            now.set(0) + now.set(1), glad, sorry}[what];
    }

    private long best(String call, int[] a) {
        switch (call) {
            case "match":
                return match(one(a[0]));
            case "seats":
                need(now.people.size() >= 2, SIZE);
                return seats();
            case "weights":
                for (int k = 0; k <= now.bag; k++) {
                    Scene other = now.copied();
                    other.hung[0] += k;
                    if (other.tilt() == 0) {
                        return k;
                    }
                }
                throw new Found(NONE);
            case "sorrow":
                one(a[0]);
                for (int s = 0; s <= 99; s++) {
                    Scene other = now.copied();
                    other.news(a[0], 0, s);
                    if (other.tilt() == 0) {
                        return s;
                    }
                }
                throw new Found(NONE);
            case "kind":
                return kind(a[0]);
            case "fewest":
                return fewest(in(a[0], 0, 1));
            default:
                one(a[0]);
                in(a[1], 0, 1);
                in(a[2], call.equals("delay") ? 1 : 0, 60);
                need(one(a[0]).end == -1, STATE);
                return call.equals("delay") ? delay(a[0], a[1], a[2]) : helps(a[0], a[1], a[2]);
        }
    }

    private long match(Man p) {
        int all = 0;
        for (int q = 0; q < now.people.size(); q++) {
            Scene two = new Scene();
            two.minute = now.minute;
            two.people.add(p.as(p.number()));
            two.people.add(now.people.get(q).as(now.people.get(q).number()));
            two.people.get(0).end = 0;
            two.people.get(1).end = 1;
            if (now.people.get(q) != p && two.tilt() == 0) {
                all |= 1 << q;
            }
        }
        return all;
    }

    private long seats() {
        int best = -1;
        int nearest = Integer.MAX_VALUE;
        for (int set = 0; set < 1 << now.people.size(); set++) {
            Scene other = now.copied();
            int seated = 0;
            for (int p = 0; p < other.people.size(); p++) {
                boolean sits = (set >> p) % 2 == 1;
                other.people.get(p).end = !sits ? -1 : seated == 0 ? 0 : 1;
                seated += sits ? 1 : 0;
            }
            if (seated >= 2 && Math.abs(other.tilt()) < nearest) {
                nearest = Math.abs(other.tilt());
                best = set;
            }
        }
        return best;
    }

    private long kind(int p) {
        one(p);
        int best = -1;
        int nearest = Integer.MAX_VALUE;
        for (int k = 0; k < 6; k++) {
            Scene other = now.copied();
            other.people.set(p, one(p).as(k));
            if (Math.abs(other.tilt()) < nearest) {
                nearest = Math.abs(other.tilt());
                best = k;
            }
        }
        return best;
    }

    private long fewest(int end) {
        for (int size = 0; size <= 8; size++) {
            for (int set = 0; set < 256; set++) {
                if (Integer.bitCount(set) == size && (set | now.set(end)) == now.set(end)) {
                    Scene other = now.copied();
                    for (int p = 0; p < other.people.size(); p++) {
                        if ((set >> p) % 2 == 1) {
                            other.people.get(p).end = -1;
                        }
                    }
                    if (other.tilt() == 0) {
                        return set;
                    }
                }
            }
        }
        throw new Found(NONE);
    }

    private long delay(int p, int end, int n) {
        for (int d = 0; d <= n; d++) {
            if (now.on(d).with(p, end).on(n - d).tilt() == 0) {
                return d;
            }
        }
        throw new Found(NONE);
    }

    private long helps(int p, int end, int n) {
        return Math.abs(now.with(p, end).on(n).tilt()) < Math.abs(now.on(n).tilt()) ? 1 : 0;
    }

    private long[] sheet(int s) {
        in(s, 0, 3);
        need(sheets[s] != null, MISSING);
        return sheets[s];
    }

    private long cut(int s, long v) {
        int away = 64 - bits[s];
        return v << away >> away;
    }

    private long sheets(String call, int[] a, long v) {
        switch (call) {
            case "sheet":
                in(a[0], 0, 3);
                need(a[1] == 0 || a[1] == 8 || a[1] == 16 || a[1] == 64, BEYOND);
                need(a[2] >= 0, SIZE);
                need(a[2] <= 40, BEYOND);
                sheets[a[0]] = a[1] == 0 ? null : new long[a[2]];
                bits[a[0]] = a[1];
                return a[1] == 0 ? 0 : a[2];
            case "write":
                long[] row = sheet(a[0]);
                long was = row[in(a[1], 0, row.length - 1)];
                row[a[1]] = cut(a[0], v);
                return was;
            case "copy":
                return copy(a[0], a[1], a[2], a[3], a[4]);
            case "lays":
                int came = 0;
                for (int p = 0; p < Math.min(sheet(a[0]).length, now.people.size()); p++) {
                    long glad = sheet(a[0])[p];
                    if (glad >= 0 && glad < 100) {
                        now.people.get(p).glad = (int) glad;
                        came++;
                    }
                }
                sheet(a[0]);
                return came;
            case "book":
                for (int i = 0; i < sheet(a[0]).length; i++) {
                    sheet(a[0])[i] = cut(a[0], now.on(i).tilt());
                }
                return sheet(a[0]).length;
            default:
                return read(sheet(a[0]), a[1]);
        }
    }

    private long copy(int s, int from, int t, int to, int n) {
        in(s, 0, 3);
        in(t, 0, 3);
        sheet(s);
        sheet(t);
        need(bits[s] == bits[t], KIND);
        need(from >= 0 && to >= 0 && n >= 0, BEYOND);
        need((long) from + n <= sheet(s).length && (long) to + n <= sheet(t).length, BEYOND);
        long[] were = sheet(s).clone();
        for (int i = 0; i < n; i++) {
            sheet(t)[to + i] = were[from + i];
        }
        return n;
    }

    private long read(long[] row, int p) {
        one(p);
        int pairs = 0;
        for (int k = 0; k < 6; k++) {
            for (int s = 0; s < 100; s++) {
                Scene other = now.copied();
                other.people.set(p, one(p).as(k));
                other.people.get(p).sorry = s;
                boolean isSo = true;
                for (int i = 0; isSo && i < row.length; i++) {
                    isSo = row[i] == other.tilt();
                    other.minute();
                }
                pairs += isSo ? 1 : 0;
            }
        }
        return pairs;
    }

    private long rest(String call, int[] a) {
        int had = tape.length();
        switch (call) {
            case "feed":
                in(a[1], 1, 4);
                need(had + a[1] <= 120, FULL);
                for (int k = 4 - a[1]; k < 4; k++) {
                    tape += (char) (a[0] << 8 * k >>> 24);
                }
                return tape.length();
            case "wipe":
                tape = "";
                return had;
            case "park":
                String told = tape;
                tape = "";
                return new Telling(told).into(this);
            case "image":
                kept = now.copied();
                return 1;
            case "undo":
                need(kept != null, NONE);
                now = kept.copied();
                return now.people.size();
            case "tear":
                int was = kept == null ? 0 : 1;
                kept = null;
                return was;
            case "count":
                return new int[] {now.people.size(), had, Integer.bitCount(now.set(0) + now.set(1)),
                    now.hung[0] + now.hung[1]}[in(a[0], 0, 3)];
            default:
                return a[0] == -1 ? Arrays.stream(findings).sum() : findings[in(a[0], 0, 6)];
        }
    }

    Scene scene() {
        return now.copied();
    }

    void becomes(Scene other) {
        now = other;
    }
}

/** A text, cut into all its tokens first, and then told item by item. */
class Telling {
    private final List<String> tokens = new ArrayList<>();
    private final List<Integer> places = new ArrayList<>();
    private int next = 0;

    Telling(String text) {
        java.util.regex.Matcher m = java.util.regex.Pattern
            .compile("[a-z]+|[0-9]+|;| |[^a-z0-9; ]", java.util.regex.Pattern.DOTALL).matcher(text);
        while (m.find()) {
            if (!m.group().equals(" ")) {
                tokens.add(m.group());
                places.add(m.start());
            }
        }
        tokens.add("");
        places.add(text.length());
    }

    private boolean comes(String word) {
        if (tokens.get(next).equals(word)) {
            next++;
            return true;
        }
        return false;
    }

    /** What may not stand there leaves next at it. */
    private void must(boolean holds) {
        if (!holds) {
            throw new Found(-1 - places.get(next));
        }
    }

    private int number(int most) {
        String token = tokens.get(next);
        must(token.matches("[0-9]+"));
        java.math.BigInteger value = new java.math.BigInteger(token);
        must(value.compareTo(java.math.BigInteger.valueOf(most)) <= 0);
        next++;
        return value.intValue();
    }

    int into(Model model) {
        Scene scene = model.scene();
        int items = 0;
        try {
            do {
                item(scene);
                items++;
            } while (comes(";"));
            must(tokens.get(next).isEmpty());
        } catch (Found fault) {
            return fault.which;
        }
        model.becomes(scene);
        return items;
    }

    private void item(Scene scene) {
        if (comes("bag")) {
            scene.bag = number(20);
        } else if (comes("news")) {
            int p = number(scene.people.size() - 1);
            int g = number(99);
            scene.news(p, g, number(99));
        } else {
            int kind = Arrays.asList("man", "girl", "child", "mayor", "orphan", "widow").indexOf(tokens.get(next));
            must(kind >= 0 && scene.people.size() < 8);
            next++;
            Man p = Man.made(kind);
            p.glad = comes("glad") ? number(99) : 0;
            p.sorry = comes("sorry") ? number(99) : 0;
            p.end = comes("on") ? number(1) : -1;
            scene.people.add(p);
        }
    }
}
