/** A test of each promise by its number: ordinary inputs, the edges that the document names, wrong inputs. */
public final class Promises {
    private static final long BEYOND = -1000000001L;
    private static final long FULL = -1000000002L;
    private static final long KIND = -1000000003L;
    private static final long NONE = -1000000004L;
    private static final long STATE = -1000000005L;
    private static final long MISSING = -1000000006L;
    private static final long SIZE = -1000000007L;

    private static final int MAN = 0;
    private static final int GIRL = 1;
    private static final int CHILD = 2;
    private static final int MAYOR = 3;
    private static final int ORPHAN = 4;
    private static final int WIDOW = 5;
    private static final int LOW = Integer.MIN_VALUE;
    private static final int HIGH = Integer.MAX_VALUE;

    private static int promise = 0;
    private static int wrong = 0;

    private static void due(String call, long got, long want) {
        if (got != want) {
            wrong++;
            System.out.println("promise " + promise + ": " + call + " answered " + got + ", due is " + want);
        }
    }

    /** One more, with its feelings, at an end. */
    private static int add(SeeSawHearts x, int kind, int glad, int sorry, int end) {
        int p = x.person(kind);
        x.set(p, 1, glad);
        x.set(p, 2, sorry);
        x.set(p, 3, end);
        return p;
    }

    private static void tell(SeeSawHearts x, String text) {
        for (int i = 0; i < text.length(); i++) {
            x.feed(text.charAt(i), 1);
        }
    }

    private static int park(SeeSawHearts x, String text) {
        tell(x, text);
        return x.park();
    }

    private static void parkDue(String text, int want) {
        due("park of '" + text + "'", park(new SeeSawHearts(), text), want);
    }

    private static void lacks(SeeSawHearts x, int[] wrongOnes, String name) {
        for (int p : wrongOnes) {
            long got;
            switch (name) {
                case "of": got = x.of(p, 0); break;
                case "heart": got = x.heart(p); break;
                case "set": got = x.set(p, 1, 0); break;
                case "turn": got = x.turn(p, 0); break;
                case "as": got = x.as(p, 0); break;
                case "news": got = x.news(p, 0, 0); break;
                case "on": got = x.on(p, 0, 0); break;
                case "mixed": got = x.mixed(p); break;
                case "match": got = x.match(p); break;
                case "sorrow": got = x.sorrow(p); break;
                case "kind": got = x.kind(p); break;
                case "delay": got = x.delay(p, 0, 1); break;
                default: got = x.helps(p, 0, 1); break;
            }
            due(name + " of " + p, got, BEYOND);
        }
    }

    private static final int[] WRONG_OF_ONE = {-1, 1, 8, LOW, HIGH};

    private static void newObject() {
        promise = 1;
        SeeSawHearts x = new SeeSawHearts();
        due("people", x.count(0), 0);
        due("bytes", x.count(1), 0);
        due("sitting", x.count(2), 0);
        due("hung", x.count(3), 0);
        due("minute", x.now(0), 0);
        due("bag", x.now(1), 10);
        due("tilt", x.now(2), 15000);
        due("level", x.now(3), 0);
        due("those that sit", x.now(4), 0);
        due("glad", x.now(5), 0);
        due("sorry", x.now(6), 0);
        due("findings", x.status(-1), 0);
        due("wipe", x.wipe(), 0);
        due("tear", x.tear(), 0);
        due("undo", x.undo(), NONE);
        for (int s = 0; s < 4; s++) {
            due("write", x.write(s, 0, 1), MISSING);
        }
    }

    private static void person() {
        promise = 2;
        SeeSawHearts x = new SeeSawHearts();
        due("person(6)", x.person(6), BEYOND);
        due("person(-1)", x.person(-1), BEYOND);
        due("person(LOW)", x.person(LOW), BEYOND);
        due("person(HIGH)", x.person(HIGH), BEYOND);
        for (int p = 0; p < 8; p++) {
            due("person", x.person(p % 6), p);
            due("kind", x.of(p, 0), p % 6);
            due("glad", x.of(p, 1), 0);
            due("sorry", x.of(p, 2), 0);
            due("off", x.of(p, 3), -1);
        }
        due("a 9th", x.person(0), FULL);
        due("a 9th of no kind", x.person(6), BEYOND);
        due("people", x.count(0), 8);
    }

    private static void of() {
        promise = 3;
        SeeSawHearts x = new SeeSawHearts();
        add(x, WIDOW, 7, 8, 1);
        due("kind", x.of(0, 0), 5);
        due("glad", x.of(0, 1), 7);
        due("sorry", x.of(0, 2), 8);
        due("end", x.of(0, 3), 1);
        int[] mixes = {1, 1, 3, 0, 2, 1};
        for (int k = 0; k < 6; k++) {
            x.turn(0, k);
            due("mixes of kind " + k, x.of(0, 4), mixes[k]);
        }
        x.set(0, 1, 0);
        due("mixes of a widow that isn't glad", x.of(0, 4), 0);
        x.turn(0, GIRL);
        due("mixes of a girl that isn't glad", x.of(0, 4), 1);
        due("of(0, 5)", x.of(0, 5), BEYOND);
        due("of(0, -1)", x.of(0, -1), BEYOND);
        lacks(x, WRONG_OF_ONE, "of");
    }

    private static void heart() {
        promise = 4;
        SeeSawHearts x = new SeeSawHearts();
        add(x, MAN, 10, 25, -1);
        int[] hearts = {-15, -27, -30, -7, -33, -27};
        for (int k = 0; k < 6; k++) {
            x.turn(0, k);
            due("heart of kind " + k, x.heart(0), 1000 + hearts[k]);
        }
        x.set(0, 1, 30);
        int[] glad = {5, -7, 10, 2, 7, -7};
        for (int k = 0; k < 6; k++) {
            x.turn(0, k);
            due("heart of kind " + k, x.heart(0), 1000 + glad[k]);
        }
        x.minutes(39);
        due("widow in minute 39", x.heart(0), 993);
        x.minutes(1);
        due("widow in minute 40", x.heart(0), 1000);
        x.turn(0, GIRL);
        due("girl in minute 40", x.heart(0), 993);
        lacks(x, WRONG_OF_ONE, "heart");
    }

    private static void set() {
        promise = 5;
        SeeSawHearts x = new SeeSawHearts();
        x.person(MAN);
        due("glad", x.set(0, 1, 99), 0);
        due("glad", x.set(0, 1, 0), 99);
        due("sorry", x.set(0, 2, 99), 0);
        due("sorry", x.set(0, 2, 3), 99);
        due("end", x.set(0, 3, 0), -1);
        due("end", x.set(0, 3, 1), 0);
        due("end", x.set(0, 3, -1), 1);
        int[][] bad = {{0, 0}, {4, 0}, {-1, 0}, {1, 100}, {1, -1}, {2, 100}, {2, -1}, {3, 2}, {3, -2},
            {1, HIGH}, {2, LOW}, {3, HIGH}, {LOW, 0}, {HIGH, 0}};
        for (int[] b : bad) {
            due("set(0, " + b[0] + ", " + b[1] + ")", x.set(0, b[0], b[1]), BEYOND);
        }
        due("glad", x.of(0, 1), 0);
        due("sorry", x.of(0, 2), 3);
        due("end", x.of(0, 3), -1);
        due("kind", x.of(0, 0), MAN);
        lacks(x, WRONG_OF_ONE, "set");
    }

    private static void turn() {
        promise = 6;
        SeeSawHearts x = new SeeSawHearts();
        add(x, MAYOR, 5, 6, 1);
        due("turn", x.turn(0, WIDOW), MAYOR);
        due("turn", x.turn(0, WIDOW), WIDOW);
        due("turn", x.turn(0, MAN), WIDOW);
        due("kind", x.of(0, 0), MAN);
        due("glad stays", x.of(0, 1), 5);
        due("sorry stays", x.of(0, 2), 6);
        due("end stays", x.of(0, 3), 1);
        due("no kind", x.turn(0, 6), BEYOND);
        due("no kind", x.turn(0, -1), BEYOND);
        due("kind", x.of(0, 0), MAN);
        lacks(x, WRONG_OF_ONE, "turn");
    }

    private static void as() {
        promise = 7;
        boolean[][] isOf = {
            {true, false, false, false, false, false},
            {true, true, false, false, false, false},
            {true, false, true, false, false, false},
            {true, false, false, true, false, false},
            {true, false, true, false, true, false},
            {true, true, false, false, false, true}};
        for (int own = 0; own < 6; own++) {
            SeeSawHearts x = new SeeSawHearts();
            add(x, own, 40 + own, 3, -1);
            for (int k = 0; k < 6; k++) {
                due("kind " + own + " as " + k, x.as(0, k), isOf[own][k] ? 40 + own : KIND);
            }
            due("no kind", x.as(0, 6), BEYOND);
            due("no kind", x.as(0, -1), BEYOND);
            due("neither", x.as(1, 6), BEYOND);
            lacks(x, WRONG_OF_ONE, "as");
        }
    }

    private static void news() {
        promise = 8;
        SeeSawHearts x = new SeeSawHearts();
        x.person(CHILD);
        due("news", x.news(0, 10, 4), 1012);
        due("news", x.news(0, 0, 99), 1000 + 2 * (10 - 99));
        due("sorry at most", x.of(0, 2), 99);
        due("news", x.news(0, 89, 0), 1000);
        due("glad", x.of(0, 1), 99);
        due("news", x.news(0, 99, 99), 1000);
        due("glad at most", x.of(0, 1), 99);
        due("g", x.news(0, 100, 0), BEYOND);
        due("g", x.news(0, -1, 0), BEYOND);
        due("s", x.news(0, 0, 100), BEYOND);
        due("s", x.news(0, 0, -1), BEYOND);
        due("s", x.news(0, 0, HIGH), BEYOND);
        lacks(x, WRONG_OF_ONE, "news");
    }

    private static void load() {
        promise = 9;
        SeeSawHearts x = new SeeSawHearts();
        due("empty", x.load(0), 1000);
        add(x, MAN, 10, 4, 0);
        add(x, GIRL, 0, 9, 0);
        add(x, CHILD, 5, 0, 1);
        add(x, CHILD, 50, 0, -1);
        due("load 0", x.load(0), 1000 + 6 - 13);
        due("load 1", x.load(1), 1010);
        x.hang(0);
        x.hang(0);
        x.hang(1);
        due("load 0", x.load(0), 1000 + 6 - 13 - 4);
        due("load 1", x.load(1), 1008);
        due("load(2)", x.load(2), BEYOND);
        due("load(-1)", x.load(-1), BEYOND);
        due("load(HIGH)", x.load(HIGH), BEYOND);
    }

    private static void at() {
        promise = 10;
        SeeSawHearts x = new SeeSawHearts();
        add(x, MAN, 0, 0, 1);
        add(x, MAN, 0, 0, 0);
        add(x, MAN, 0, 0, -1);
        add(x, MAN, 0, 0, 1);
        due("at 0", x.at(0), 2);
        due("at 1", x.at(1), 9);
        due("at 2", x.at(2), BEYOND);
        due("at -1", x.at(-1), BEYOND);
    }

    private static void hang() {
        promise = 11;
        SeeSawHearts x = new SeeSawHearts();
        for (int k = 1; k <= 7; k++) {
            due("hang", x.hang(1), k);
        }
        due("hang", x.hang(0), 1);
        due("bag", x.now(1), 2);
        x.bag(0);
        due("no such end, empty bag", x.hang(2), BEYOND);
        due("empty", x.hang(0), NONE);
        due("hung", x.count(3), 8);
        due("hang(-1)", x.hang(-1), BEYOND);
    }

    private static void take() {
        promise = 12;
        SeeSawHearts x = new SeeSawHearts();
        x.hang(0);
        x.hang(0);
        due("take", x.take(0), 1);
        due("bag", x.now(1), 9);
        due("none there", x.take(1), NONE);
        x.bag(20);
        due("full", x.take(0), FULL);
        due("none before full", x.take(1), NONE);
        due("take(2)", x.take(2), BEYOND);
        due("take(-1)", x.take(-1), BEYOND);
        x.bag(19);
        due("take", x.take(0), 0);
        due("bag", x.now(1), 20);
    }

    private static void bag() {
        promise = 13;
        SeeSawHearts x = new SeeSawHearts();
        due("bag", x.bag(20), 10);
        due("bag", x.bag(0), 20);
        due("bag(21)", x.bag(21), BEYOND);
        due("bag(-1)", x.bag(-1), BEYOND);
        due("bag", x.now(1), 0);
    }

    private static void minutes() {
        promise = 14;
        SeeSawHearts x = new SeeSawHearts();
        add(x, MAN, 9, 0, 0);
        due("alone", x.minutes(3), 15000);
        due("nobody mixes alone", x.of(0, 1), 9);
        add(x, CHILD, 0, 9, 1);
        add(x, CHILD, 9, 0, -1);
        due("together", x.minutes(1), 10000 + 7 - 6);
        due("man", x.of(0, 1), 8);
        due("man", x.of(0, 2), 1);
        due("child", x.of(1, 1), 3);
        due("child", x.of(1, 2), 6);
        due("off", x.of(2, 1), 9);
        due("no more than half the difference", x.minutes(1), 10000 + 5 - 2);
        due("child", x.of(1, 1), 4);
        due("child", x.of(1, 2), 5);
        due("no more", x.minutes(100), 10000 + 1 - 2);
        due("man", x.of(0, 1), 5);
        due("child", x.of(1, 2), 5);
        due("minute", x.now(0), 105);
        for (int n : new int[] {0, 101, -1, LOW, HIGH}) {
            due("minutes(" + n + ")", x.minutes(n), BEYOND);
        }
        due("minute", x.now(0), 105);
        mixesByKind();
        lastMinute();
    }

    /** More calls than an object is promised for: MINUTE comes to its end no sooner. */
    private static void lastMinute() {
        SeeSawHearts x = new SeeSawHearts();
        for (int k = 0; k < 999; k++) {
            x.minutes(100);
        }
        x.minutes(98);
        due("two too many", x.minutes(3), STATE);
        due("n before state", x.minutes(101), BEYOND);
        due("minute", x.now(0), 99998);
        due("the last", x.minutes(1), 15000);
        due("above 99999", x.minutes(1), STATE);
        due("minute", x.now(0), 99999);
    }

    private static void mixesByKind() {
        int[] orphan = {90, 12};
        int[] mayor = {99, 3};
        SeeSawHearts x = new SeeSawHearts();
        add(x, ORPHAN, orphan[0], orphan[1], 0);
        add(x, MAYOR, mayor[0], mayor[1], 1);
        add(x, WIDOW, 0, 9, 1);
        add(x, WIDOW, 1, 9, 1);
        add(x, GIRL, 9, 0, 0);
        x.minutes(2);
        due("orphan", x.of(0, 1), 86);
        due("orphan", x.of(0, 2), 16);
        due("mayor", x.of(1, 1), 99);
        due("widow not glad", x.of(2, 2), 9);
        due("widow glad", x.of(3, 2), 7);
        due("widow glad", x.of(3, 1), 3);
        due("girl", x.of(4, 1), 7);
        due("girl", x.of(4, 2), 2);
    }

    private static void now() {
        promise = 15;
        SeeSawHearts x = new SeeSawHearts();
        add(x, MAN, 9, 2, 0);
        add(x, MAYOR, 0, 14, 1);
        add(x, MAYOR, 3, 4, -1);
        x.bag(7);
        due("minute", x.now(0), 0);
        due("bag", x.now(1), 7);
        due("tilt", x.now(2), 10000);
        due("level", x.now(3), 1);
        due("those that sit", x.now(4), 3);
        due("glad", x.now(5), 12);
        due("sorry", x.now(6), 20);
        x.hang(0);
        due("tilt", x.now(2), 9998);
        due("level", x.now(3), 0);
        due("now(7)", x.now(7), BEYOND);
        due("now(-1)", x.now(-1), BEYOND);
    }

    private static void on() {
        promise = 16;
        SeeSawHearts x = new SeeSawHearts();
        add(x, CHILD, 50, 0, 0);
        add(x, MAN, 0, 50, 1);
        due("glad on 0", x.on(0, 0, 0), 50);
        due("glad on 2", x.on(0, 2, 0), 44);
        due("sorry on 2", x.on(0, 2, 1), 6);
        due("glad on 8", x.on(0, 8, 0), 26);
        due("glad on 9", x.on(0, 9, 0), 25);
        due("glad on 100", x.on(1, 100, 0), 25);
        due("nothing changes", x.of(0, 1), 50);
        due("nothing changes", x.now(0), 0);
        for (int n : new int[] {-1, 101, LOW, HIGH}) {
            due("on n " + n, x.on(0, n, 0), BEYOND);
        }
        due("what", x.on(0, 0, 2), BEYOND);
        due("what", x.on(0, 0, -1), BEYOND);
        lacks(x, new int[] {-1, 2, 8}, "on");
    }

    private static void tilt() {
        promise = 17;
        SeeSawHearts x = new SeeSawHearts();
        due("empty", x.tilt(100), 15000);
        add(x, CHILD, 50, 0, 0);
        add(x, WIDOW, 0, 50, 1);
        due("tilt on 0", x.tilt(0), 10000 + 100 - 75);
        due("tilt on 1", x.tilt(1), 10000 + 88 - 75);
        due("tilt on 39", x.tilt(39), 10000 - 75);
        due("tilt on 40", x.tilt(40), 10000);
        due("nothing changes", x.now(0), 0);
        due("nothing changes", x.now(2), 10025);
        for (int n : new int[] {-1, 101, LOW, HIGH}) {
            due("tilt(" + n + ")", x.tilt(n), BEYOND);
        }
    }

    private static void level() {
        promise = 18;
        SeeSawHearts x = new SeeSawHearts();
        due("empty", x.level(), NONE);
        add(x, CHILD, 50, 0, 0);
        due("alone", x.level(), NONE);
        add(x, WIDOW, 0, 50, 1);
        due("level when the widow is", x.level(), 40);
        x.turn(1, MAN);
        due("level", x.level(), 5);
        due("tilt then", x.tilt(5), 10000);
        due("past it", x.tilt(10), 9970);
    }

    private static void levelEdges() {
        promise = 18;
        SeeSawHearts x = new SeeSawHearts();
        add(x, MAYOR, 1, 0, 0);
        add(x, MAN, 0, 0, 1);
        due("level at once", x.level(), 0);
        x.hang(0);
        due("never level", x.level(), NONE);
        x.turn(0, MAN);
        x.set(0, 1, 2);
        due("level now, not later", x.level(), 0);
        SeeSawHearts y = new SeeSawHearts();
        add(y, MAN, 99, 0, 0);
        add(y, MAYOR, 2, 0, 1);
        y.hang(1);
        due("late", y.level(), 49);
        due("just before", y.tilt(48), 10002);
        due("tilt then", y.tilt(100), 10000);
    }

    private static void mixed() {
        promise = 19;
        SeeSawHearts x = new SeeSawHearts();
        add(x, MAN, 8, 0, 0);
        due("alone", x.mixed(0), NONE);
        add(x, MAN, 9, 0, 1);
        add(x, MAN, 3, 3, -1);
        add(x, MAN, 3, 4, -1);
        add(x, MAYOR, 3, 5, 1);
        add(x, CHILD, 0, 98, 1);
        due("man", x.mixed(0), 4);
        due("by an odd difference", x.mixed(1), NONE);
        due("at once", x.mixed(2), 0);
        due("off", x.mixed(3), NONE);
        due("mayor", x.mixed(4), NONE);
        due("child", x.mixed(5), 17);
        lacks(x, new int[] {-1, 6, 8}, "mixed");
    }

    private static void match() {
        promise = 20;
        SeeSawHearts x = new SeeSawHearts();
        add(x, MAN, 0, 0, 0);
        due("not with oneself", x.match(0), 0);
        add(x, MAN, 12, 0, 0);
        add(x, GIRL, 0, 8, 0);
        add(x, CHILD, 3, 9, 1);
        add(x, MAN, 12, 0, 1);
        add(x, WIDOW, 0, 8, -1);
        x.hang(0);
        due("match", x.match(1), 4 + 8 + 32);
        due("match", x.match(2), 2 + 16);
        due("nobody", x.match(0), 0);
        x.minutes(40);
        x.set(1, 1, 6);
        x.set(1, 2, 6);
        due("with an eased widow", x.match(0) & 32, 32);
        lacks(x, new int[] {-1, 6, 8}, "match");
    }

    private static void seats() {
        promise = 21;
        SeeSawHearts x = new SeeSawHearts();
        due("nobody", x.seats(), SIZE);
        add(x, MAN, 10, 0, -1);
        due("one", x.seats(), SIZE);
        add(x, MAN, 9, 0, 0);
        due("two", x.seats(), 3);
        add(x, MAN, 0, 18, -1);
        add(x, MAN, 0, 18, -1);
        due("nearest", x.seats(), 7);
        x.set(1, 1, 17);
        due("the least of several", x.seats(), 6);
        x.hang(1);
        due("with a grievance", x.seats(), 6);
        x.set(0, 1, 20);
        due("with a grievance", x.seats(), 5);
        due("nobody has moved", x.at(0), 2);
    }

    private static void weights() {
        promise = 22;
        SeeSawHearts x = new SeeSawHearts();
        due("empty", x.weights(), NONE);
        add(x, MAN, 20, 0, 0);
        due("alone", x.weights(), NONE);
        add(x, MAN, 0, 0, 1);
        due("all of the bag", x.weights(), 10);
        x.bag(9);
        due("too few", x.weights(), NONE);
        x.set(0, 1, 13);
        due("odd", x.weights(), NONE);
        x.set(0, 1, 0);
        due("none is needed", x.weights(), 0);
        x.set(1, 2, 4);
        due("too sorry", x.weights(), NONE);
        x.set(1, 2, 0);
        x.set(1, 1, 8);
        x.hang(1);
        due("some hang", x.weights(), 3);
        due("nothing changes", x.count(3), 1);
    }

    private static void sorrow() {
        promise = 23;
        SeeSawHearts x = new SeeSawHearts();
        add(x, MAN, 20, 0, 0);
        due("alone", x.sorrow(0), NONE);
        add(x, GIRL, 0, 4, 1);
        add(x, MAN, 0, 0, -1);
        due("own", x.sorrow(0), 14);
        due("half is cut", x.sorrow(1), NONE);
        x.set(0, 1, 21);
        due("girl", x.sorrow(1), 10);
        x.set(0, 1, 20);
        due("off", x.sorrow(2), NONE);
        x.set(0, 2, 14);
        due("level", x.sorrow(2), 0);
        due("level", x.sorrow(0), 0);
        x.set(0, 2, 15);
        due("too sorry", x.sorrow(0), NONE);
        x.set(0, 2, 0);
        x.set(0, 1, 99);
        x.set(1, 2, 0);
        due("all of it", x.sorrow(0), 99);
        x.set(1, 1, 1);
        due("more than all of it", x.sorrow(0), NONE);
        due("nothing changes", x.of(0, 2), 0);
        lacks(x, new int[] {-1, 3, 8}, "sorrow");
    }

    private static void kind() {
        promise = 24;
        SeeSawHearts x = new SeeSawHearts();
        add(x, ORPHAN, 10, 4, 0);
        due("alone", x.kind(0), MAN);
        add(x, MAN, 0, 12, 1);
        due("child", x.kind(0), CHILD);
        x.set(1, 2, 9);
        due("orphan", x.kind(0), ORPHAN);
        x.set(1, 2, 3);
        due("mayor", x.kind(0), MAYOR);
        x.set(1, 2, 5);
        due("of two the least", x.kind(0), MAN);
        x.set(1, 2, 4);
        due("girl before widow", x.kind(0), GIRL);
        x.set(1, 2, 0);
        x.minutes(40);
        x.set(0, 1, 50);
        x.set(0, 2, 4);
        x.set(1, 1, 0);
        x.set(1, 2, 0);
        due("widow", x.kind(0), WIDOW);
        due("nothing changes", x.of(0, 0), ORPHAN);
        add(x, ORPHAN, 10, 4, -1);
        due("off", x.kind(2), MAN);
        lacks(x, new int[] {-1, 3, 8}, "kind");
    }

    private static void delay() {
        promise = 25;
        SeeSawHearts x = new SeeSawHearts();
        add(x, MAYOR, 20, 0, 0);
        add(x, MAYOR, 0, 0, 1);
        add(x, MAN, 0, 20, -1);
        // Level once it has 10 more of SORRY than of GLAD: after 5 minutes on the beam.
        due("delay", x.delay(2, 1, 5), 0);
        due("delay", x.delay(2, 0, 8), 3);
        due("delay", x.delay(2, 0, 60), 55);
        due("too few minutes", x.delay(2, 0, 4), NONE);
        x.set(2, 2, 10);
        due("just then", x.delay(2, 0, 7), 7);
        x.set(1, 3, -1);
        due("alone it does not mix", x.delay(2, 1, 7), 7);
        due("one end only", x.delay(2, 0, 7), NONE);
        due("nothing changes", x.of(2, 3), -1);
        due("it sits", x.delay(0, 0, 7), STATE);
        due("end before state", x.delay(0, 2, 7), BEYOND);
        due("end", x.delay(2, -1, 7), BEYOND);
        due("n before state", x.delay(0, 0, 0), BEYOND);
        due("n", x.delay(2, 0, 0), BEYOND);
        due("n", x.delay(2, 0, 61), BEYOND);
        due("n", x.delay(2, 0, HIGH), BEYOND);
        lacks(x, new int[] {-1, 3, 8}, "delay");
    }

    private static void fewest() {
        promise = 26;
        SeeSawHearts x = new SeeSawHearts();
        due("empty", x.fewest(0), NONE);
        add(x, MAN, 5, 0, 0);
        due("alone", x.fewest(0), NONE);
        add(x, MAN, 0, 5, 1);
        due("level", x.fewest(0), 0);
        due("level", x.fewest(1), 0);
        add(x, MAN, 2, 0, 0);
        add(x, MAN, 3, 0, 0);
        due("two, as one would stay", x.fewest(0), 1);
        due("by the other end", x.fewest(1), NONE);
        add(x, MAN, 5, 0, 0);
        due("two rather than three", x.fewest(0), 17);
        x.hang(0);
        x.hang(1);
        due("with grievances", x.fewest(0), NONE);
        x.set(0, 1, 6);
        due("with grievances", x.fewest(0), 4 + 16);
        due("nobody has moved", x.at(0), 1 + 4 + 8 + 16);
        due("fewest(2)", x.fewest(2), BEYOND);
        due("fewest(-1)", x.fewest(-1), BEYOND);
    }

    private static void fewestEdges() {
        promise = 26;
        SeeSawHearts x = new SeeSawHearts();
        add(x, MAN, 1, 0, 0);
        add(x, MAN, 2, 0, 0);
        add(x, MAN, 3, 0, 0);
        add(x, MAN, 0, 4, 0);
        add(x, MAN, 0, 0, 1);
        add(x, MAN, 0, 1, 1);
        due("tilt", x.now(2), 10001);
        due("one rather than two", x.fewest(0), 1);
        x.set(1, 1, 1);
        x.set(2, 1, 4);
        due("of two alike the least", x.fewest(0), 1);
        x.set(1, 1, 2);
        x.set(2, 1, 3);
        x.set(4, 1, 2);
        due("of two the least", x.fewest(0), 4);
        SeeSawHearts y = new SeeSawHearts();
        add(y, MAN, 7, 0, 0);
        add(y, MAN, 0, 0, 1);
        due("the only one stays", y.fewest(0), NONE);
        y.set(0, 3, 1);
        y.set(1, 3, 0);
        due("the only one stays", y.fewest(1), NONE);
    }

    private static void helps() {
        promise = 27;
        SeeSawHearts x = new SeeSawHearts();
        add(x, MAYOR, 20, 0, 0);
        add(x, MAYOR, 0, 0, 1);
        add(x, MAN, 0, 21, -1);
        due("no nearer", x.helps(2, 0, 0), 0);
        due("nearer later", x.helps(2, 1, 1), 1);
        x.set(2, 2, 20);
        due("as near is not nearer", x.helps(2, 0, 0), 0);
        due("nearer at 60", x.helps(2, 0, 4), 1);
        due("as near when mixed", x.helps(2, 0, 60), 0);
        x.set(1, 3, -1);
        due("it hangs then", x.helps(2, 1, 60), 1);
        due("it does not", x.helps(2, 0, 60), 0);
        due("nothing changes", x.of(2, 3), -1);
        due("it sits", x.helps(0, 0, 1), STATE);
        due("end before state", x.helps(0, 2, 1), BEYOND);
        due("end", x.helps(2, -1, 1), BEYOND);
        due("n before state", x.helps(0, 0, 61), BEYOND);
        due("n", x.helps(2, 0, 61), BEYOND);
        due("n", x.helps(2, 0, -1), BEYOND);
        lacks(x, new int[] {-1, 3, 8}, "helps");
    }

    private static void feed() {
        promise = 28;
        SeeSawHearts x = new SeeSawHearts();
        due("feed", x.feed('b' << 16 | 'a' << 8 | 'g', 3), 3);
        due("only the lowest", x.feed(0x77777700 | ' ', 1), 4);
        due("feed", x.feed('1' << 8 | '2', 2), 6);
        due("park", x.park(), 1);
        due("bag", x.now(1), 12);
        due("n", x.feed(0, 0), BEYOND);
        due("n", x.feed(0, 5), BEYOND);
        due("n", x.feed(0, -1), BEYOND);
        for (int k = 1; k <= 29; k++) {
            due("feed", x.feed(-1, 4), 4 * k);
        }
        due("feed", x.feed(-1, 2), 118);
        due("full", x.feed(-1, 3), FULL);
        due("n before full", x.feed(-1, 5), BEYOND);
        due("nothing changes", x.count(1), 118);
        due("to the brim", x.feed(-1, 2), 120);
        due("full", x.feed(-1, 1), FULL);
    }

    private static void wipe() {
        promise = 29;
        SeeSawHearts x = new SeeSawHearts();
        tell(x, "widow");
        due("wipe", x.wipe(), 5);
        due("wipe", x.wipe(), 0);
        tell(x, "man");
        due("only what came later", x.park(), 1);
        due("kind", x.of(0, 0), MAN);
    }

    private static void parkGood() {
        promise = 30;
        SeeSawHearts x = new SeeSawHearts();
        due("park", park(x, "man;girl glad 1;child sorry 2;mayor on 0;orphan glad 3 sorry 4 on 1;widow glad99on1"), 6);
        int[][] all = {{0, 0, 0, -1}, {1, 1, 0, -1}, {2, 0, 2, -1}, {3, 0, 0, 0}, {4, 3, 4, 1}, {5, 99, 0, 1}};
        for (int p = 0; p < 6; p++) {
            for (int what = 0; what < 4; what++) {
                due("of(" + p + ", " + what + ")", x.of(p, what), all[p][what]);
            }
        }
        due("the tape is empty", x.count(1), 0);
        due("news of one there by then", park(x, "news 0 1 2;man;news 6 099 98;news 6 1 1;bag 0"), 5);
        due("news", x.of(0, 1), 1);
        due("news", x.of(0, 2), 2);
        due("news", x.of(6, 1), 99);
        due("news", x.of(6, 2), 99);
        due("bag", x.now(1), 0);
        due("an 8th", park(x, " bag  20 ; man sorry 0000000000000099 "), 2);
        due("bag", x.now(1), 20);
        due("sorry", x.of(7, 2), 99);
        due("a 9th: its own place", park(x, "bag 3; girl glad 100"), -8);
        due("nothing changes", x.now(1), 20);
        due("people", x.count(0), 8);
        due("the tape is empty", x.wipe(), 0);
        due("no finding", x.status(-1), 0);
        due("120 bytes", park(x, "bag 1;bag 1;bag 1;bag 1;bag 1;bag 1;bag 1;bag 1;bag 1;bag 1;"
            + "bag 1;bag 1;bag 1;bag 1;bag 1;bag 1;bag 1;bag 1;bag 1;bag 02"), 20);
        due("bag", x.now(1), 2);
    }

    private static void parkFaults() {
        promise = 30;
        parkDue("", -1);
        parkDue("   ", -4);
        parkDue("man;", -5);
        parkDue("man; ", -6);
        parkDue(";man", -1);
        parkDue("man;;man", -5);
        parkDue("man man", -5);
        parkDue("mann", -1);
        parkDue("ma", -1);
        parkDue("pan", -1);
        parkDue("map", -1);
        parkDue("manz", -1);
        parkDue("zman", -1);
        parkDue("man z", -5);
        parkDue("manglad 3", -1);
        parkDue("Man", -1);
        parkDue("man\t", -4);
        parkDue("man -1", -5);
        parkDue("man 5", -5);
        parkDue("5", -1);
        parkDue("glad 5", -1);
        parkDue("man glad", -9);
        parkDue("man glad ", -10);
        parkDue("man glad glad", -10);
        parkDue("man glad 100", -10);
        parkDue("man glad 99", 1);
        parkDue("man glad 1000", -10);
        parkDue("man glad 4294967296", -10);
        parkDue("man glad 18446744073709551616", -10);
        parkDue("man glad 1 glad 1", -12);
        parkDue("man sorry 1 glad 1", -13);
        parkDue("man on 1 sorry 1", -10);
        parkDue("man on 1 2", -10);
        parkDue("man sorry 100", -11);
        parkDue("man on 2", -8);
        parkDue("man on 1", 1);
        parkDue("man on;", -7);
        parkDue("bag", -4);
        parkDue("bag;", -4);
        parkDue("bag 21", -5);
        parkDue("bag 20", 1);
        parkDue("bag20;bag0", 2);
        parkDue("bag 1 1", -7);
        parkDue("news", -5);
        parkDue("news 0 1 1", -6);
        parkDue("man;news 0 1 1", 2);
        parkDue("man;news 1 1 1", -10);
        parkDue("man;news 0 100 1", -12);
        parkDue("man;news 0 1 100", -14);
        parkDue("man;news 0 1", -13);
        parkDue("man;news 0 1 1 1", -16);
        parkDue("man,girl", -4);
        parkDue("man" + (char) 0, -4);
        parkDue("man" + (char) 225, -4);
        parkDue("man;man;man;man;man;man;man;man", 8);
        parkDue("man;man;man;man;man;man;man;man; man", -34);
        parkDue("man;man;man;man;man;man;man;man; hat", -34);
    }

    private static void sheet() {
        promise = 31;
        SeeSawHearts x = new SeeSawHearts();
        due("8 bits", x.sheet(0, 8, 40), 40);
        due("16 bits", x.sheet(1, 16, 0), 0);
        due("64 bits", x.sheet(3, 64, 1), 1);
        x.write(0, 39, 5);
        due("anew", x.sheet(0, 8, 40), 40);
        due("all 0", x.write(0, 39, 0), 0);
        due("smaller", x.sheet(0, 8, 3), 3);
        due("smaller", x.write(0, 3, 0), BEYOND);
        due("no such sheet", x.sheet(4, 8, -1), BEYOND);
        due("no such sheet", x.sheet(-1, 8, 1), BEYOND);
        due("other bits", x.sheet(0, 32, -1), BEYOND);
        due("other bits", x.sheet(0, -8, 1), BEYOND);
        due("below 0", x.sheet(0, 8, -1), SIZE);
        due("below 0", x.sheet(0, 0, LOW), SIZE);
        due("above 40", x.sheet(0, 8, 41), BEYOND);
        due("above 40", x.sheet(0, 0, 41), BEYOND);
        due("still there", x.write(0, 2, 0), 0);
        due("missing", x.sheet(0, 0, 40), 0);
        due("missing", x.write(0, 2, 0), MISSING);
        due("there, with none", x.write(1, 0, 0), BEYOND);
    }

    private static void write() {
        promise = 32;
        SeeSawHearts x = new SeeSawHearts();
        x.sheet(0, 8, 2);
        x.sheet(1, 16, 2);
        x.sheet(2, 64, 2);
        due("write", x.write(0, 0, 127), 0);
        due("write", x.write(0, 0, 128), 127);
        due("write", x.write(0, 0, 256 + 5), -128);
        due("write", x.write(0, 0, -1), 5);
        due("write", x.write(0, 0, 0), -1);
        due("write", x.write(1, 1, 32768), 0);
        due("write", x.write(1, 1, 65536 + 300), -32768);
        due("write", x.write(1, 1, 0), 300);
        due("write", x.write(2, 1, Long.MIN_VALUE), 0);
        due("write", x.write(2, 1, Long.MAX_VALUE), Long.MIN_VALUE);
        due("write", x.write(2, 1, 0), Long.MAX_VALUE);
        due("no such sheet", x.write(4, 0, 0), BEYOND);
        due("no such sheet", x.write(-1, 0, 0), BEYOND);
        due("missing", x.write(3, 99, 0), MISSING);
        due("no such number", x.write(0, 2, 0), BEYOND);
        due("no such number", x.write(0, -1, 0), BEYOND);
        due("no such number", x.write(0, HIGH, 0), BEYOND);
    }

    private static void copy() {
        promise = 33;
        SeeSawHearts x = new SeeSawHearts();
        x.sheet(0, 8, 5);
        x.sheet(1, 8, 3);
        x.sheet(2, 16, 5);
        for (int i = 0; i < 5; i++) {
            x.write(0, i, i + 1);
        }
        due("copy", x.copy(0, 1, 1, 0, 3), 3);
        due("copy", x.copy(0, 0, 0, 1, 4), 4);
        int[] row = {1, 1, 2, 3, 4};
        for (int i = 0; i < 5; i++) {
            due("as they all were", x.write(0, i, i + 1), row[i]);
        }
        due("copy", x.copy(0, 1, 0, 0, 4), 4);
        int[] back = {2, 3, 4, 5, 5};
        for (int i = 0; i < 5; i++) {
            due("as they all were", x.write(0, i, 0), back[i]);
        }
        due("copy", x.write(1, 0, 0), 2);
        due("copy", x.write(1, 2, 0), 4);
        due("none", x.copy(0, 5, 1, 3, 0), 0);
        due("no such sheet", x.copy(4, 0, 3, 0, 1), BEYOND);
        due("no such sheet", x.copy(3, 0, -1, 0, 1), BEYOND);
        due("missing", x.copy(3, -1, 0, 0, 1), MISSING);
        due("missing", x.copy(0, 0, 3, 0, 1), MISSING);
        due("other bits", x.copy(0, -1, 2, 0, 1), KIND);
        int[][] bad = {{0, 0, 4}, {3, 0, 3}, {0, 1, 3}, {-1, 0, 1}, {0, -1, 1}, {0, 0, -1}, {6, 0, 0}, {0, 4, 0},
            {HIGH, 0, 2}, {0, HIGH, 2}, {2, 0, HIGH}, {LOW, 0, LOW}};
        for (int[] b : bad) {
            due("copy(0, " + b[0] + ", 1, " + b[1] + ", " + b[2] + ")", x.copy(0, b[0], 1, b[1], b[2]), BEYOND);
        }
    }

    private static void lays() {
        promise = 34;
        SeeSawHearts x = new SeeSawHearts();
        add(x, MAN, 1, 0, -1);
        add(x, MAN, 2, 0, -1);
        add(x, MAN, 3, 0, 0);
        add(x, MAN, 4, 0, -1);
        x.sheet(0, 64, 6);
        long[] row = {99, 100, -1, 0, 7, 8};
        for (int i = 0; i < 6; i++) {
            x.write(0, i, row[i]);
        }
        due("lays", x.lays(0), 2);
        int[] glads = {99, 2, 3, 0};
        for (int p = 0; p < 4; p++) {
            due("glad of " + p, x.of(p, 1), glads[p]);
        }
        x.write(0, 1, (1L << 32) + 5);
        due("not cut", x.lays(0), 2);
        due("not cut", x.of(1, 1), 2);
        x.sheet(0, 8, 1);
        due("shorter", x.lays(0), 1);
        due("shorter", x.of(0, 1), 0);
        due("no such sheet", x.lays(4), BEYOND);
        due("no such sheet", x.lays(-1), BEYOND);
        due("missing", x.lays(1), MISSING);
    }

    private static void book() {
        promise = 35;
        SeeSawHearts x = new SeeSawHearts();
        add(x, CHILD, 99, 0, 0);
        x.sheet(0, 8, 2);
        due("book", x.book(0), 2);
        due("not hanging, lowest bits", x.write(0, 1, 0), (byte) 5000);
        add(x, MAN, 0, 0, 1);
        x.sheet(1, 16, 40);
        x.sheet(3, 8, 3);
        due("book", x.book(1), 40);
        due("book", x.book(3), 3);
        for (int i = 0; i < 40; i++) {
            due("number " + i, x.write(1, i, 0), i < 16 ? 198 - 12 * i : i == 16 ? 6 : 2);
        }
        due("lowest bits", x.write(3, 0, 0), (byte) 198);
        due("nothing changes", x.now(0), 0);
        due("no such sheet", x.book(4), BEYOND);
        due("no such sheet", x.book(-1), BEYOND);
        due("missing", x.book(2), MISSING);
    }

    private static void read() {
        promise = 36;
        SeeSawHearts x = new SeeSawHearts();
        add(x, MAN, 10, 0, 0);
        x.sheet(0, 16, 3);
        due("not hanging", x.read(0, 0), 0);
        x.book(0);
        due("not hanging", x.read(0, 0), 600);
        add(x, MAYOR, 0, 7, 1);
        add(x, MAYOR, 0, 7, -1);
        x.book(0);
        // HEART is due to be 10, 8, 6: a girl's goes 10, 8, 5, since half of SORRY comes in.
        due("by man", x.read(0, 0), 1);
        due("of one that is off", x.read(0, 2), 600);
        x.write(0, 2, 4);
        due("of one that is off", x.read(0, 2), 0);
        due("none", x.read(0, 0), 0);
        x.sheet(0, 16, 1);
        x.book(0);
        // HEART is due to be 10: man, girl, widow with 0, child with 5; mayor and orphan never.
        due("by now alone", x.read(0, 0), 4);
        x.sheet(0, 8, 1);
        x.set(0, 3, -1);
        x.book(0);
        due("what is cut is not so", x.read(0, 0), 0);
        x.sheet(0, 8, 0);
        due("no numbers", x.read(0, 0), 600);
        due("no such sheet", x.read(4, 9), BEYOND);
        due("no such sheet", x.read(-1, 0), BEYOND);
        due("missing", x.read(1, 9), MISSING);
        due("no such one", x.read(0, 3), BEYOND);
        due("no such one", x.read(0, -1), BEYOND);
        due("nothing changes", x.of(0, 2), 0);
    }

    private static void image() {
        promise = 37;
        SeeSawHearts x = new SeeSawHearts();
        due("image of nobody", x.image(), 1);
        add(x, ORPHAN, 5, 6, 0);
        add(x, MAN, 7, 8, 1);
        x.hang(0);
        x.hang(1);
        x.hang(1);
        x.minutes(4);
        due("image", x.image(), 1);
        due("the latest counts", x.undo(), 2);
        x.turn(0, MAYOR);
        x.set(0, 1, 99);
        x.set(0, 2, 98);
        x.set(0, 3, -1);
        x.person(GIRL);
        x.take(0);
        x.take(1);
        x.minutes(9);
        x.bag(1);
        due("undo", x.undo(), 2);
        due("kind", x.of(0, 0), ORPHAN);
        due("glad", x.of(0, 1), 5);
        due("sorry", x.of(0, 2), 6);
        due("end", x.of(0, 3), 0);
        due("bag", x.now(1), 7);
        due("minute", x.now(0), 4);
        due("hung", x.count(3), 3);
        due("load", x.load(1), 1000 - 1 - 4);
        due("a new one is new", x.person(MAN), 2);
        due("a new one is new", x.of(2, 0), MAN);
    }

    private static void undo() {
        promise = 38;
        SeeSawHearts x = new SeeSawHearts();
        due("nothing is kept", x.undo(), NONE);
        x.person(MAN);
        x.image();
        x.person(MAN);
        tell(x, "bag 3");
        x.sheet(0, 8, 2);
        x.write(0, 1, 9);
        due("undo", x.undo(), 1);
        due("the tape stays", x.count(1), 5);
        due("sheets stay", x.write(0, 1, 9), 9);
        due("findings stay", x.status(3), 1);
        x.person(MAN);
        due("it stays kept", x.undo(), 1);
        due("people", x.count(0), 1);
    }

    private static void tear() {
        promise = 39;
        SeeSawHearts x = new SeeSawHearts();
        due("nothing", x.tear(), 0);
        x.image();
        x.image();
        due("something", x.tear(), 1);
        due("nothing", x.tear(), 0);
        due("nothing is kept", x.undo(), NONE);
    }

    private static void count() {
        promise = 40;
        SeeSawHearts x = new SeeSawHearts();
        add(x, MAN, 0, 0, 0);
        add(x, MAN, 0, 0, 1);
        add(x, MAN, 0, 0, 1);
        add(x, MAN, 0, 0, -1);
        x.hang(0);
        x.hang(1);
        tell(x, "abcde");
        due("people", x.count(0), 4);
        due("bytes", x.count(1), 5);
        due("sitting", x.count(2), 3);
        due("hung", x.count(3), 2);
        due("count(4)", x.count(4), BEYOND);
        due("count(-1)", x.count(-1), BEYOND);
    }

    private static void status() {
        promise = 41;
        SeeSawHearts x = new SeeSawHearts();
        x.person(MAN);
        x.set(0, 3, 0);
        x.heart(9);
        x.heart(9);
        x.write(9, 0, 0);
        x.bag(20);
        x.image();
        for (int k = 0; k < 2; k++) {
            x.feed(0, 4);
        }
        for (int k = 0; k < 32; k++) {
            x.feed(0, 4);
        }
        x.as(0, 1);
        x.weights();
        x.level();
        x.helps(0, 0, 0);
        x.write(0, 0, 0);
        x.seats();
        x.sheet(0, 8, -1);
        x.undo();
        long[] counts = {3, 4, 1, 2, 1, 1, 2};
        for (int k = 0; k < 7; k++) {
            due("status(" + k + ")", x.status(k), counts[k]);
        }
        due("all", x.status(-1), 14);
        due("another", x.status(7), BEYOND);
        due("another", x.status(-2), BEYOND);
        due("counted from then on", x.status(0), 5);
        due("counted from then on", x.status(-1), 16);
        x.wipe();
        due("fault", park(x, "!"), -1);
        due("a fault is no finding", x.status(-1), 16);
    }

    public static void main(String[] args) {
        newObject();
        person();
        of();
        heart();
        set();
        turn();
        as();
        news();
        load();
        at();
        hang();
        take();
        bag();
        minutes();
        now();
        on();
        tilt();
        level();
        levelEdges();
        mixed();
        match();
        seats();
        weights();
        sorrow();
        kind();
        delay();
        fewest();
        fewestEdges();
        helps();
        feed();
        wipe();
        parkGood();
        parkFaults();
        sheet();
        write();
        copy();
        lays();
        book();
        read();
        image();
        undo();
        tear();
        count();
        status();
        System.out.println(wrong == 0 ? "all promises hold" : wrong + " answers are not as due");
        if (wrong != 0) {
            System.exit(1);
        }
    }
}
