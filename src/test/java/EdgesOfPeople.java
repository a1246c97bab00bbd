/** The boundaries of promises 1 to 8. */
public final class EdgesOfPeople extends Edges {
    /** Numbers of nobody, where six are there. */
    private static final int[] NOBODY = {-1, 6, 7, 8, LOW, HIGH};
    private static final int[] NO_KIND = {-1, 6, LOW, HIGH};

    private static void newObject() {
        promise(1);
        told("nobody is there", Edges::empty, x -> x.count(0), 0);
        told("nobody sits", Edges::empty, x -> x.now(4), 0);
        told("the tape is empty", Edges::empty, x -> x.count(1), 0);
        told("the text of the empty tape ends at once", Edges::empty, x -> x.park(), -1);
        told("no image is kept, to tear", Edges::empty, x -> x.tear(), 0);
        refused("no image is kept, to undo", Edges::empty, x -> x.undo(), NONE);
        told("minute", Edges::empty, x -> x.now(0), 0);
        told("bag", Edges::empty, x -> x.now(1), 10);
        told("nothing is hung", Edges::empty, x -> x.count(3), 0);
        told("load of end 0", Edges::empty, x -> x.load(0), 1000);
        told("load of end 1", Edges::empty, x -> x.load(1), 1000);
        told("it does not hang", Edges::empty, x -> x.now(2), 15000);
        for (int s = 0; s < 4; s++) {
            int sheet = s;
            refused("sheet " + s + " is missing", Edges::empty, x -> x.write(sheet, 0, 1), MISSING);
        }
        for (int w = -1; w <= 6; w++) {
            int which = w;
            told("status " + w, Edges::empty, x -> x.status(which), 0);
        }
        SeeSawHearts first = full();
        first.heart(9);
        due("another new object has nothing of the first: people", new SeeSawHearts().count(0), 0);
        due("bytes", new SeeSawHearts().count(1), 0);
        due("hung", new SeeSawHearts().count(3), 0);
        due("findings", new SeeSawHearts().status(-1), 0);
        due("images", new SeeSawHearts().tear(), 0);
    }

    private static void person() {
        promise(2);
        for (int kind = 0; kind <= 5; kind++) {
            SeeSawHearts x = empty();
            due("the first is number 0", x.person(kind), 0);
            due("of its kind", x.of(0, 0), kind);
            due("not glad at first", x.of(0, 1), 0);
            due("not sorry at first", x.of(0, 2), 0);
            due("off at first", x.of(0, 3), OFF);
        }
        beyond("kind", Edges::empty, SeeSawHearts::person, NO_KIND);
        beyond("kind", Edges::busy, SeeSawHearts::person, NO_KIND);
        SeeSawHearts x = busy();
        due("a 7th", x.person(WIDOW), 6);
        due("an 8th, the last", x.person(MAN), 7);
        due("a 9th", x.person(MAN), FULL);
        due("there are 8", x.count(0), 8);
        refused("a 9th", Edges::full, y -> y.person(MAN), FULL);
        refused("a 9th of the last kind", Edges::full, y -> y.person(WIDOW), FULL);
        beyond("kind is asked before full", Edges::full, SeeSawHearts::person, NO_KIND);
        personAfterUndo();
    }

    private static void personAfterUndo() {
        SeeSawHearts x = empty();
        x.image();
        one(x, WIDOW, 99, 98, 1);
        x.undo();
        due("where another one was, number", x.person(MAN), 0);
        due("nothing is left of it: kind", x.of(0, 0), MAN);
        due("glad", x.of(0, 1), 0);
        due("sorry", x.of(0, 2), 0);
        due("end", x.of(0, 3), OFF);
    }

    private static SeeSawHearts single(int kind, int glad, int sorry, int end) {
        SeeSawHearts x = empty();
        one(x, kind, glad, sorry, end);
        return x;
    }

    private static void of() {
        promise(3);
        told("the least kind", () -> single(MAN, 1, 2, 0), x -> x.of(0, 0), 0);
        told("the greatest kind", () -> single(WIDOW, 1, 2, 0), x -> x.of(0, 0), 5);
        told("the least glad", () -> single(MAN, 0, 2, 0), x -> x.of(0, 1), 0);
        told("the greatest glad", () -> single(MAN, 99, 2, 0), x -> x.of(0, 1), 99);
        told("the least sorry", () -> single(MAN, 1, 0, 0), x -> x.of(0, 2), 0);
        told("the greatest sorry", () -> single(MAN, 1, 99, 0), x -> x.of(0, 2), 99);
        for (int e = -1; e <= 1; e++) {
            int end = e;
            told("end " + e, () -> single(MAN, 1, 2, end), x -> x.of(0, 3), end);
        }
        int[] mixes = {1, 1, 3, 0, 2, 1};
        int[] notGlad = {1, 1, 3, 0, 2, 0};
        for (int k = 0; k <= 5; k++) {
            int kind = k;
            told("mixes of kind " + k + ", glad 1", () -> single(kind, 1, 5, 0), x -> x.of(0, 4), mixes[kind]);
            told("mixes of kind " + k + ", glad 0", () -> single(kind, 0, 5, 0), x -> x.of(0, 4), notGlad[kind]);
            told("mixes of kind " + k + ", off", () -> single(kind, 99, 99, OFF), x -> x.of(0, 4), mixes[kind]);
        }
        SeeSawHearts eased = single(WIDOW, 1, 5, 0);
        until(eased, 40);
        due("mixes of a widow in minute 40", eased.of(0, 4), 1);
        told("the first one", Edges::busy, x -> x.of(0, 1), 41);
        told("the last one", Edges::busy, x -> x.of(5, 2), 5);
        told("the last of eight", Edges::full, x -> x.of(7, 0), 1);
        beyond("what", Edges::busy, (x, v) -> x.of(0, v), -1, 5, LOW, HIGH);
        for (int what = 0; what <= 4; what++) {
            int w = what;
            beyond("what " + w + " of", Edges::busy, (x, v) -> x.of(v, w), NOBODY);
        }
        refused("of the first, where nobody is", Edges::empty, x -> x.of(0, 0), BEYOND);
        refused("of a 9th", Edges::full, x -> x.of(8, 0), BEYOND);
    }

    private static void hearts(int glad, int sorry, int... want) {
        for (int k = 0; k <= 5; k++) {
            int kind = k;
            told("kind " + k + ", glad " + glad + ", sorry " + sorry, () -> single(kind, glad, sorry, OFF),
                x -> x.heart(0), 1000 + want[k]);
        }
    }

    private static void heart() {
        promise(4);
        hearts(0, 0, 0, 0, 0, 0, -3, 0);
        hearts(99, 0, 99, 99, 198, 49, 195, 99);
        hearts(0, 99, -99, -148, -198, -49, -201, -148);
        hearts(99, 99, 0, -49, 0, 0, -3, -49);
        // What is halved is cut towards 0.
        hearts(1, 0, 1, 1, 2, 0, -1, 1);
        hearts(0, 1, -1, -1, -2, 0, -5, -1);
        hearts(0, 2, -2, -3, -4, -1, -7, -3);
        hearts(0, 3, -3, -4, -6, -1, -9, -4);
        hearts(3, 0, 3, 3, 6, 1, 3, 3);
        for (int m : new int[] {0, 39, 40, 41, 100}) {
            for (int k = 0; k <= 5; k++) {
                SeeSawHearts x = single(k, 9, 4, OFF);
                until(x, m);
                int[] early = {5, 3, 10, 2, 7, 3};
                int want = k == WIDOW && m >= 40 ? 0 : early[k];
                due("kind " + k + " in minute " + m, x.heart(0), 1000 + want);
            }
        }
        told("it counts for nothing where one sits", () -> single(MAN, 5, 2, 1), x -> x.heart(0), 1003);
        beyond("of", Edges::busy, SeeSawHearts::heart, NOBODY);
        refused("of the first, where nobody is", Edges::empty, x -> x.heart(0), BEYOND);
        refused("of a 9th", Edges::full, x -> x.heart(8), BEYOND);
    }

    private static void setDue(int what, int from, int to) {
        SeeSawHearts x = busy();
        x.set(4, what, from);
        int[] was = {x.of(4, 0), x.of(4, 1), x.of(4, 2), x.of(4, 3)};
        was[what] = to;
        due("what " + what + " from " + from + " to " + to, x.set(4, what, to), from);
        for (int w = 0; w <= 3; w++) {
            due("what " + w + " once what " + what + " is " + to, x.of(4, w), was[w]);
        }
    }

    private static void set() {
        promise(5);
        for (int what = 1; what <= 2; what++) {
            setDue(what, 0, 99);
            setDue(what, 99, 0);
            setDue(what, 99, 99);
            int w = what;
            beyond("what " + w + " becomes", Edges::busy, (x, v) -> x.set(0, w, v), -1, 100, LOW, HIGH);
        }
        for (int from = -1; from <= 1; from++) {
            for (int to = -1; to <= 1; to++) {
                setDue(3, from, to);
            }
        }
        beyond("end becomes", Edges::busy, (x, v) -> x.set(0, 3, v), -2, 2, LOW, HIGH);
        beyond("what", Edges::busy, (x, v) -> x.set(0, v, 1), 0, 4, -1, LOW, HIGH);
        for (int what = 1; what <= 3; what++) {
            int w = what;
            beyond("what " + w + " of", Edges::busy, (x, v) -> x.set(v, w, 1), NOBODY);
        }
        SeeSawHearts x = full();
        due("of the last of eight", x.set(7, 1, 5), 99);
        due("of the last of eight", x.of(7, 1), 5);
        due("of nobody else", x.now(5), 7 * 99 + 5);
        refused("of the first, where nobody is", Edges::empty, y -> y.set(0, 1, 0), BEYOND);
        refused("of a 9th", Edges::full, y -> y.set(8, 1, 0), BEYOND);
    }

    private static void turn() {
        promise(6);
        for (int from = 0; from <= 5; from++) {
            for (int to = 0; to <= 5; to++) {
                SeeSawHearts x = busy();
                x.turn(5, from);
                due("from kind " + from + " to " + to, x.turn(5, to), from);
                due("it is of kind " + to, x.of(5, 0), to);
                due("glad stays", x.of(5, 1), 6);
                due("sorry stays", x.of(5, 2), 5);
                due("end stays", x.of(5, 3), 1);
            }
        }
        beyond("kind", Edges::busy, (x, v) -> x.turn(0, v), NO_KIND);
        beyond("of", Edges::busy, (x, v) -> x.turn(v, 0), NOBODY);
        refused("of the first, where nobody is", Edges::empty, x -> x.turn(0, 0), BEYOND);
        refused("of a 9th", Edges::full, x -> x.turn(8, 0), BEYOND);
        SeeSawHearts x = full();
        due("of the last of eight", x.turn(7, MAYOR), GIRL);
    }

    private static void as() {
        promise(7);
        String[] above = {"0", "01", "02", "03", "024", "015"};
        for (int own = 0; own <= 5; own++) {
            for (int k = 0; k <= 5; k++) {
                int of = own;
                int kind = k;
                boolean isOf = above[own].contains("" + k);
                String name = "kind " + own + " as " + k;
                if (isOf) {
                    told(name + ", the least glad", () -> single(of, 0, 7, 0), x -> x.as(0, kind), 0);
                    told(name + ", the greatest glad", () -> single(of, 99, 7, 0), x -> x.as(0, kind), 99);
                } else {
                    refused(name, () -> single(of, 99, 7, 0), x -> x.as(0, kind), KIND);
                }
            }
        }
        beyond("of", Edges::busy, (x, v) -> x.as(v, MAN), NOBODY);
        beyond("as", Edges::busy, (x, v) -> x.as(0, v), NO_KIND);
        beyond("neither", Edges::busy, (x, v) -> x.as(v, v), -1, 6, LOW, HIGH);
        refused("of the first, where nobody is", Edges::empty, x -> x.as(0, 0), BEYOND);
        refused("nobody is asked before the kind", Edges::empty, x -> x.as(0, WIDOW), BEYOND);
        refused("of a 9th", Edges::full, x -> x.as(8, 0), BEYOND);
    }

    private static void newsDue(int glad, int sorry, int g, int s, int gladThen, int sorryThen) {
        SeeSawHearts x = single(MAN, glad, sorry, 1);
        String name = "news " + g + " and " + s + " to glad " + glad + ", sorry " + sorry;
        due(name + ", heart then", x.news(0, g, s), 1000 + gladThen - sorryThen);
        due(name + ", glad then", x.of(0, 1), gladThen);
        due(name + ", sorry then", x.of(0, 2), sorryThen);
    }

    private static void news() {
        promise(8);
        newsDue(0, 0, 0, 0, 0, 0);
        newsDue(99, 99, 0, 0, 99, 99);
        newsDue(0, 0, 99, 0, 99, 0);
        newsDue(0, 0, 0, 99, 0, 99);
        newsDue(98, 5, 1, 0, 99, 5);
        newsDue(98, 5, 2, 0, 99, 5);
        newsDue(99, 5, 1, 0, 99, 5);
        newsDue(99, 5, 99, 0, 99, 5);
        newsDue(5, 98, 0, 1, 5, 99);
        newsDue(5, 98, 0, 2, 5, 99);
        newsDue(5, 99, 0, 1, 5, 99);
        newsDue(5, 99, 0, 99, 5, 99);
        newsDue(1, 1, 99, 99, 99, 99);
        SeeSawHearts x = single(WIDOW, 1, 1, OFF);
        until(x, 39);
        due("a widow in minute 39", x.news(0, 2, 3), 1000 + 3 - 4 - 2);
        x.minutes(1);
        due("a widow in minute 40", x.news(0, 2, 3), 1000);
        due("is glad all the same", x.of(0, 1), 5);
        beyond("of", Edges::busy, (y, v) -> y.news(v, 1, 1), NOBODY);
        beyond("g", Edges::busy, (y, v) -> y.news(0, v, 1), -1, 100, LOW, HIGH);
        beyond("s", Edges::busy, (y, v) -> y.news(0, 1, v), -1, 100, LOW, HIGH);
        refused("of the first, where nobody is", Edges::empty, y -> y.news(0, 0, 0), BEYOND);
        refused("of a 9th", Edges::full, y -> y.news(8, 0, 0), BEYOND);
    }

    public static void main(String[] args) {
        newObject();
        person();
        of();
        heart();
        set();
        turn();
        as();
        news();
        end();
    }
}
