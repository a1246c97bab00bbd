/** The boundaries of promises 9 to 19. */
public final class EdgesOfBeam extends Edges {
    /** Numbers of nobody, where six are there. */
    private static final int[] NOBODY = {-1, 6, 7, 8, LOW, HIGH};
    private static final int[] NO_END = {-1, 2, LOW, HIGH};
    private static final int[] NOT_AHEAD = {-1, 101, LOW, HIGH};

    /** One at END 0, over against a mayor that weighs nothing and never mixes. */
    private static SeeSawHearts hanging(int kind, int glad, int sorry) {
        SeeSawHearts x = empty();
        one(x, kind, glad, sorry, 0);
        one(x, MAYOR, 0, 0, 1);
        return x;
    }

    private static SeeSawHearts eightAt(int end, int kind, int glad, int sorry) {
        SeeSawHearts x = empty();
        for (int p = 0; p < 8; p++) {
            one(x, kind, glad, sorry, end);
        }
        return x;
    }

    private static SeeSawHearts hung(int end, int n) {
        SeeSawHearts x = empty();
        for (int k = 0; k < n; k++) {
            x.bag(1);
            x.hang(end);
        }
        return x;
    }

    private static void load() {
        promise(9);
        for (int e = 0; e <= 1; e++) {
            int end = e;
            told("an empty end " + e, Edges::empty, x -> x.load(end), 1000);
            told("all at end " + e + ", the saddest", () -> eightAt(end, ORPHAN, 0, 99), x -> x.load(end), 1000 - 8 * 201);
            told("all at end " + e + ", the gladdest", () -> eightAt(end, CHILD, 99, 0), x -> x.load(end), 1000 + 8 * 198);
            told("nobody at the other than " + e, () -> eightAt(1 - end, CHILD, 99, 0), x -> x.load(end), 1000);
            told("all are off", () -> eightAt(OFF, CHILD, 99, 0), x -> x.load(end), 1000);
            told("a grievance alone at " + e, () -> hung(end, 1), x -> x.load(end), 998);
            told("one at the other than " + e, () -> hung(1 - end, 1), x -> x.load(end), 1000);
            told("more of them than a bag has", () -> hung(end, 41), x -> x.load(end), 1000 - 82);
        }
        SeeSawHearts x = hanging(WIDOW, 9, 0);
        x.set(1, 3, OFF);
        until(x, 39);
        due("a widow in minute 39", x.load(0), 1009);
        x.minutes(1);
        due("a widow in minute 40", x.load(0), 1000);
        beyond("end", Edges::busy, SeeSawHearts::load, NO_END);
        beyond("end", Edges::empty, SeeSawHearts::load, NO_END);
    }

    private static void at() {
        promise(10);
        for (int e = 0; e <= 1; e++) {
            int end = e;
            told("nobody is there", Edges::empty, x -> x.at(end), 0);
            told("all are off", () -> eightAt(OFF, MAN, 0, 0), x -> x.at(end), 0);
            told("all are there", () -> eightAt(end, MAN, 0, 0), x -> x.at(end), 255);
            told("all are at the other", () -> eightAt(1 - end, MAN, 0, 0), x -> x.at(end), 0);
        }
        for (int p = 0; p < 8; p++) {
            SeeSawHearts x = eightAt(OFF, MAN, 0, 0);
            x.set(p, 3, 1);
            due("person " + p + " alone", x.at(1), 1 << p);
            due("not at the other", x.at(0), 0);
        }
        beyond("end", Edges::busy, SeeSawHearts::at, NO_END);
    }

    private static SeeSawHearts withBag(int v) {
        SeeSawHearts x = busy();
        x.bag(v);
        return x;
    }

    private static void hang() {
        promise(11);
        for (int e = 0; e <= 1; e++) {
            int end = e;
            SeeSawHearts x = empty();
            x.bag(20);
            for (int k = 1; k <= 20; k++) {
                due("one of 20 to end " + e, x.hang(e), k);
            }
            due("the bag is empty", x.now(1), 0);
            due("none is left", x.hang(e), NONE);
            x.bag(1);
            due("a 21st", x.hang(e), 21);
            due("none at the other", x.load(1 - e), 1000);
            refused("an empty bag", () -> withBag(0), y -> y.hang(end), NONE);
        }
        SeeSawHearts x = withBag(1);
        due("the last one", x.hang(0), 3);
        due("of the other end", x.hang(1), NONE);
        due("hung at the other end", x.load(1), busy().load(1));
        beyond("end", Edges::busy, SeeSawHearts::hang, NO_END);
        beyond("end is asked before the bag", () -> withBag(0), SeeSawHearts::hang, NO_END);
    }

    private static void take() {
        promise(12);
        // Of the busy ones two hang at END 0, one at END 1.
        SeeSawHearts x = withBag(0);
        due("to an empty bag", x.take(0), 1);
        due("the bag has it", x.now(1), 1);
        due("the last one", x.take(0), 0);
        due("no more there", x.take(0), NONE);
        due("the other end has its own", x.take(1), 0);
        due("no more there", x.take(1), NONE);
        due("the bag has them", x.now(1), 3);
        SeeSawHearts y = withBag(19);
        due("the last that the bag can hold", y.take(0), 1);
        due("it is full", y.now(1), 20);
        due("no room", y.take(0), FULL);
        refused("a full bag, end 0", Edges::full, z -> z.take(0), FULL);
        refused("a full bag, end 1", Edges::full, z -> z.take(1), FULL);
        refused("none hangs at end 0", Edges::empty, z -> z.take(0), NONE);
        refused("none hangs at end 1", () -> hung(0, 3), z -> z.take(1), NONE);
        beyond("end", Edges::busy, SeeSawHearts::take, NO_END);
        beyond("end is asked before none", Edges::empty, SeeSawHearts::take, NO_END);
        beyond("end is asked before full", Edges::full, SeeSawHearts::take, NO_END);
        refused("none is asked before full", EdgesOfBeam::fullAndHungAtOne, z -> z.take(0), NONE);
    }

    private static SeeSawHearts fullAndHungAtOne() {
        SeeSawHearts x = hung(1, 2);
        x.bag(20);
        return x;
    }

    private static void bag() {
        promise(13);
        SeeSawHearts x = busy();
        due("to the least", x.bag(0), 5);
        due("it is", x.now(1), 0);
        due("to the greatest", x.bag(20), 0);
        due("it is", x.now(1), 20);
        due("as it is", x.bag(20), 20);
        due("what is hung stays", x.count(3), 3);
        due("at first", new SeeSawHearts().bag(3), 10);
        beyond("v", Edges::busy, SeeSawHearts::bag, -1, 21, LOW, HIGH);
        beyond("v", Edges::full, SeeSawHearts::bag, -1, 21, LOW, HIGH);
    }

    /** One MINUTE of one that hangs: what is GLAD and SORRY then. */
    private static void mixDue(int kind, int glad, int sorry, int gladThen, int sorryThen) {
        SeeSawHearts x = hanging(kind, glad, sorry);
        String name = "kind " + kind + ", glad " + glad + ", sorry " + sorry;
        x.minutes(1);
        due(name + ", glad then", x.of(0, 1), gladThen);
        due(name + ", sorry then", x.of(0, 2), sorryThen);
    }

    /** That, and the same turned about. */
    private static void mixBoth(int kind, int more, int less, int moreThen, int lessThen) {
        mixDue(kind, more, less, moreThen, lessThen);
        mixDue(kind, less, more, lessThen, moreThen);
    }

    private static void mixing() {
        promise(14);
        for (int kind = 0; kind <= 5; kind++) {
            mixBoth(kind, 0, 0, 0, 0);
            mixBoth(kind, 99, 99, 99, 99);
            mixBoth(kind, 8, 7, 8, 7);
            mixBoth(kind, 1, 0, 1, 0);
        }
        for (int kind : new int[] {MAN, GIRL, WIDOW}) {
            mixBoth(kind, 8, 6, 7, 7);
            mixBoth(kind, 8, 5, 7, 6);
            mixBoth(kind, 99, 1, 98, 2);
        }
        mixBoth(CHILD, 8, 6, 7, 7);
        mixBoth(CHILD, 8, 5, 7, 6);
        mixBoth(CHILD, 8, 4, 6, 6);
        mixBoth(CHILD, 8, 3, 6, 5);
        mixBoth(CHILD, 8, 2, 5, 5);
        mixBoth(CHILD, 8, 1, 5, 4);
        mixBoth(CHILD, 8, 0, 5, 3);
        mixBoth(CHILD, 99, 0, 96, 3);
        mixBoth(ORPHAN, 8, 6, 7, 7);
        mixBoth(ORPHAN, 8, 5, 7, 6);
        mixBoth(ORPHAN, 8, 4, 6, 6);
        mixBoth(ORPHAN, 8, 3, 6, 5);
        mixBoth(ORPHAN, 99, 0, 97, 2);
        mixBoth(MAYOR, 8, 6, 8, 6);
        mixBoth(MAYOR, 99, 0, 99, 0);
        mixDue(MAN, 0, 99, 1, 98);
        mixDue(GIRL, 0, 99, 1, 98);
        mixDue(WIDOW, 0, 99, 0, 99);
        mixDue(WIDOW, 1, 99, 2, 98);
        mixDue(WIDOW, 99, 0, 98, 1);
        eachByWhatWas();
    }

    /** A widow that is not GLAD as the MINUTE began does not mix, whoever else does. */
    private static void eachByWhatWas() {
        SeeSawHearts x = empty();
        one(x, MAN, 9, 0, 0);
        one(x, WIDOW, 0, 9, 1);
        one(x, CHILD, 0, 9, 1);
        one(x, MAN, 9, 0, OFF);
        due("two minutes", x.minutes(2), 10000 + 5 - 13 - 2);
        due("man", x.of(0, 1), 7);
        due("widow", x.of(1, 2), 9);
        due("child", x.of(2, 2), 5);
        due("off", x.of(3, 1), 9);
    }

    private static void minutes() {
        promise(14);
        SeeSawHearts x = hanging(CHILD, 99, 1);
        due("the fewest", x.minutes(1), 10000 + 184);
        due("minute", x.now(0), 1);
        due("the most", x.minutes(100), 10000);
        due("minute", x.now(0), 101);
        SeeSawHearts alone = hanging(CHILD, 99, 1);
        alone.set(1, 3, 0);
        due("nobody at end 1", alone.minutes(100), 15000);
        due("nobody mixes", alone.of(0, 1), 99);
        due("the minutes go", alone.now(0), 100);
        alone.set(0, 3, 1);
        alone.set(1, 3, 1);
        due("nobody at end 0", alone.minutes(1), 15000);
        due("nobody mixes", alone.of(0, 1), 99);
        due("nobody there", empty().minutes(1), 15000);
        SeeSawHearts widow = hanging(WIDOW, 5, 5);
        due("a widow comes to minute 39", widow.minutes(39), 9998);
        due("a widow comes to minute 40", widow.minutes(1), 10000);
        SeeSawHearts eight = eightAt(0, CHILD, 9, 0);
        eight.set(0, 3, 1);
        due("eight on the beam", eight.minutes(1), 10000 + 8 * 6);
        for (int p = 0; p < 8; p++) {
            due("person " + p + " is mixed", eight.of(p, 2), 3);
        }
        beyond("n", Edges::busy, SeeSawHearts::minutes, 0, 101, -1, LOW, HIGH);
        beyond("n", Edges::empty, SeeSawHearts::minutes, 0, 101, -1, LOW, HIGH);
        lastMinute();
    }

    private static SeeSawHearts lateBy(int minute) {
        SeeSawHearts x = hanging(MAN, 5, 5);
        until(x, minute);
        return x;
    }

    /** More calls than an object is promised for: MINUTE comes to its end no sooner. */
    private static void lastMinute() {
        SeeSawHearts x = lateBy(99998);
        due("to the last", x.minutes(1), 10000);
        due("minute", x.now(0), 99999);
        SeeSawHearts y = lateBy(99899);
        due("to the last by the most", y.minutes(100), 10000);
        due("minute", y.now(0), 99999);
        refused("one above the last", () -> lateBy(99999), z -> z.minutes(1), STATE);
        refused("one above the last by the most", () -> lateBy(99900), z -> z.minutes(100), STATE);
        refused("two where there is one", () -> lateBy(99998), z -> z.minutes(2), STATE);
        beyond("n is asked before state", () -> lateBy(99999), SeeSawHearts::minutes, 0, 101, HIGH);
    }

    private static void now() {
        promise(15);
        int[] atFirst = {0, 10, 15000, 0, 0, 0, 0};
        int[] whenFull = {0, 20, 10000 - 158, 0, 255, 792, 792};
        for (int w = 0; w <= 6; w++) {
            int what = w;
            told("what " + w + " of nobody", Edges::empty, x -> x.now(what), atFirst[what]);
            told("what " + w + " of all that can be", Edges::full, x -> x.now(what), whenFull[what]);
        }
        told("an empty bag", () -> withBag(0), x -> x.now(1), 0);
        told("dead level", () -> hanging(MAN, 5, 5), x -> x.now(3), 1);
        told("too glad by 1", () -> hanging(MAN, 6, 5), x -> x.now(3), 0);
        told("too sorry by 1", () -> hanging(MAN, 5, 6), x -> x.now(3), 0);
        told("nobody at end 0", () -> eightAt(1, MAN, 0, 0), x -> x.now(2), 15000);
        told("nobody at end 1", () -> eightAt(0, MAN, 0, 0), x -> x.now(2), 15000);
        told("not level, as it does not hang", () -> eightAt(0, MAN, 0, 0), x -> x.now(3), 0);
        told("they sit all the same", () -> eightAt(0, MAN, 0, 0), x -> x.now(4), 255);
        told("nobody sits", () -> eightAt(OFF, MAN, 9, 8), x -> x.now(4), 0);
        told("glad of those that are off", () -> eightAt(OFF, MAN, 9, 8), x -> x.now(5), 72);
        told("sorry of those that are off", () -> eightAt(OFF, MAN, 9, 8), x -> x.now(6), 64);
        SeeSawHearts sad = eightAt(0, ORPHAN, 0, 99);
        sad.set(7, 3, 1);
        due("the least tilt", sad.now(2), 10000 - 8 * 201);
        SeeSawHearts glad = eightAt(0, CHILD, 99, 0);
        glad.set(7, 3, 1);
        due("the greatest tilt", glad.now(2), 10000 + 8 * 198);
        beyond("what", Edges::busy, SeeSawHearts::now, -1, 7, LOW, HIGH);
    }

    private static void on() {
        promise(16);
        told("glad on 0", () -> hanging(MAN, 99, 1), x -> x.on(0, 0, 0), 99);
        told("sorry on 0", () -> hanging(MAN, 99, 1), x -> x.on(0, 0, 1), 1);
        told("glad on 1", () -> hanging(MAN, 99, 1), x -> x.on(0, 1, 0), 98);
        told("sorry on 1", () -> hanging(MAN, 99, 1), x -> x.on(0, 1, 1), 2);
        told("glad on 48", () -> hanging(MAN, 99, 1), x -> x.on(0, 48, 0), 51);
        told("glad on 49", () -> hanging(MAN, 99, 1), x -> x.on(0, 49, 0), 50);
        told("glad on 50", () -> hanging(MAN, 99, 1), x -> x.on(0, 50, 0), 50);
        told("glad on 100", () -> hanging(MAN, 99, 1), x -> x.on(0, 100, 0), 50);
        told("sorry on 100", () -> hanging(MAN, 99, 1), x -> x.on(0, 100, 1), 50);
        told("one that is off", Edges::busy, x -> x.on(2, 100, 1), 8);
        told("where it does not hang", () -> eightAt(1, CHILD, 9, 0), x -> x.on(7, 100, 0), 9);
        beyond("of", Edges::busy, (x, v) -> x.on(v, 0, 0), NOBODY);
        beyond("n", Edges::busy, (x, v) -> x.on(0, v, 0), NOT_AHEAD);
        beyond("what", Edges::busy, (x, v) -> x.on(0, 0, v), -1, 2, LOW, HIGH);
        refused("of the first, where nobody is", Edges::empty, x -> x.on(0, 0, 0), BEYOND);
        refused("of a 9th", Edges::full, x -> x.on(8, 0, 0), BEYOND);
    }

    private static void tilt() {
        promise(17);
        told("on 0", () -> hanging(CHILD, 99, 1), x -> x.tilt(0), 10196);
        told("on 1", () -> hanging(CHILD, 99, 1), x -> x.tilt(1), 10184);
        told("on 16", () -> hanging(CHILD, 99, 1), x -> x.tilt(16), 10004);
        told("on 17, by no more than half", () -> hanging(CHILD, 99, 1), x -> x.tilt(17), 10000);
        told("on 100", () -> hanging(CHILD, 99, 1), x -> x.tilt(100), 10000);
        told("a widow on 39", () -> hanging(WIDOW, 0, 9), x -> x.tilt(39), 9987);
        told("a widow on 40", () -> hanging(WIDOW, 0, 9), x -> x.tilt(40), 10000);
        told("nobody, on 0", Edges::empty, x -> x.tilt(0), 15000);
        told("nobody, on 100", Edges::empty, x -> x.tilt(100), 15000);
        told("one end alone", () -> eightAt(0, MAN, 0, 0), x -> x.tilt(100), 15000);
        beyond("n", Edges::busy, SeeSawHearts::tilt, NOT_AHEAD);
        beyond("n", Edges::empty, SeeSawHearts::tilt, NOT_AHEAD);
    }

    private static SeeSawHearts griefAnd(int kind, int glad, int sorry, int grief) {
        SeeSawHearts x = hanging(kind, glad, sorry);
        for (int k = 0; k < grief; k++) {
            x.hang(k % 2);
        }
        return x;
    }

    private static void level() {
        promise(18);
        told("at once", () -> hanging(MAN, 5, 5), SeeSawHearts::level, 0);
        told("at once, though no longer", () -> griefAnd(MAN, 12, 0, 6), SeeSawHearts::level, 0);
        told("in 1", () -> griefAnd(MAN, 12, 0, 5), SeeSawHearts::level, 1);
        refused("never: from above to below at once", () -> griefAnd(CHILD, 4, 0, 3), SeeSawHearts::level, NONE);
        // The latest that can be: nobody mixes for more than 49 MINUTES, and a widow's HEART is 0 from 40 on.
        told("in 49", () -> hanging(MAN, 99, 1), SeeSawHearts::level, 49);
        told("in 40, by a widow", () -> hanging(WIDOW, 0, 9), SeeSawHearts::level, 40);
        refused("never: by 1 too glad", () -> hanging(MAN, 6, 5), SeeSawHearts::level, NONE);
        refused("never: by 1 too sorry", () -> hanging(MAN, 5, 6), SeeSawHearts::level, NONE);
        refused("never: a mayor", () -> hanging(MAYOR, 99, 0), SeeSawHearts::level, NONE);
        refused("nobody there", Edges::empty, SeeSawHearts::level, NONE);
        refused("one end alone", () -> eightAt(0, MAN, 0, 0), SeeSawHearts::level, NONE);
        refused("all are off", () -> eightAt(OFF, MAN, 0, 0), SeeSawHearts::level, NONE);
    }

    private static void mixed() {
        promise(19);
        told("at once", () -> hanging(MAN, 5, 5), x -> x.mixed(0), 0);
        told("the other one at once", () -> hanging(MAN, 9, 5), x -> x.mixed(1), 0);
        told("in 1", () -> hanging(MAN, 7, 5), x -> x.mixed(0), 1);
        told("in 49", () -> hanging(MAN, 99, 1), x -> x.mixed(0), 49);
        told("in 49, the other way", () -> hanging(GIRL, 1, 99), x -> x.mixed(0), 49);
        told("a child in 17", () -> hanging(CHILD, 0, 98), x -> x.mixed(0), 17);
        told("at once, though off", () -> eightAt(OFF, MAN, 99, 99), x -> x.mixed(7), 0);
        refused("never: by 1", () -> hanging(MAN, 6, 5), x -> x.mixed(0), NONE);
        refused("never: by 99", () -> hanging(MAN, 99, 0), x -> x.mixed(0), NONE);
        refused("never: a mayor", () -> hanging(MAYOR, 7, 5), x -> x.mixed(0), NONE);
        refused("never: a widow not glad", () -> hanging(WIDOW, 0, 2), x -> x.mixed(0), NONE);
        refused("never: off", () -> eightAt(OFF, MAN, 7, 5), x -> x.mixed(7), NONE);
        refused("never: it does not hang", () -> eightAt(0, MAN, 7, 5), x -> x.mixed(7), NONE);
        beyond("of", Edges::busy, SeeSawHearts::mixed, NOBODY);
        refused("of the first, where nobody is", Edges::empty, x -> x.mixed(0), BEYOND);
        refused("of a 9th", Edges::full, x -> x.mixed(8), BEYOND);
    }

    public static void main(String[] args) {
        load();
        at();
        hang();
        take();
        bag();
        mixing();
        minutes();
        now();
        on();
        tilt();
        level();
        mixed();
        end();
    }
}
