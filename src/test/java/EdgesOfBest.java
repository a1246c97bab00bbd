/** The boundaries of promises 20 to 27. */
public final class EdgesOfBest extends Edges {
    /** Numbers of nobody, where six are there. */
    private static final int[] NOBODY = {-1, 6, 7, 8, LOW, HIGH};
    private static final int[] NO_END = {-1, 2, LOW, HIGH};

    /** People told by rows of kind, GLAD, SORRY, END. */
    private static SeeSawHearts people(int[]... rows) {
        SeeSawHearts x = empty();
        for (int[] r : rows) {
            one(x, r[0], r[1], r[2], r[3]);
        }
        return x;
    }

    private static int[] row(int kind, int glad, int sorry, int end) {
        return new int[] {kind, glad, sorry, end};
    }

    private static SeeSawHearts alike(int n, int end) {
        SeeSawHearts x = empty();
        for (int p = 0; p < n; p++) {
            one(x, MAN, 0, 0, end);
        }
        return x;
    }

    private static SeeSawHearts hung(SeeSawHearts x, int end, int n) {
        for (int k = 0; k < n; k++) {
            x.hang(end);
        }
        return x;
    }

    private static SeeSawHearts inMinute(SeeSawHearts x, int minute) {
        until(x, minute);
        return x;
    }

    private static SeeSawHearts pair(int kind, int glad, int sorry) {
        return people(row(MAN, glad, sorry, OFF), row(kind, sorry, glad, OFF));
    }

    private static void match() {
        promise(20);
        told("nobody but oneself", () -> alike(1, OFF), x -> x.match(0), 0);
        told("the first with all others", () -> alike(8, OFF), x -> x.match(0), 254);
        told("the last with all others", () -> alike(8, OFF), x -> x.match(7), 127);
        told("where they sit counts for nothing", () -> alike(8, 1), x -> x.match(3), 247);
        told("grievances count for nothing", () -> hung(alike(2, 0), 1, 3), x -> x.match(0), 2);
        told("as sorry as the other's glad, the most", () -> people(row(CHILD, 99, 0, 0), row(CHILD, 0, 99, 0)),
            x -> x.match(0), 2);
        told("by 1 less", () -> people(row(MAN, 9, 0, 0), row(MAN, 0, 8, 1)), x -> x.match(0), 0);
        told("by 1 more", () -> people(row(MAN, 9, 0, 0), row(MAN, 0, 10, 1)), x -> x.match(0), 0);
        told("as glad as the other", () -> people(row(MAN, 9, 0, 0), row(MAN, 9, 0, 1)), x -> x.match(0), 0);
        told("a widow in minute 39", () -> inMinute(people(row(MAN, 4, 4, OFF), row(WIDOW, 9, 0, OFF)), 39),
            x -> x.match(0), 0);
        told("a widow in minute 40", () -> inMinute(people(row(MAN, 4, 4, OFF), row(WIDOW, 9, 0, OFF)), 40),
            x -> x.match(0), 2);
        told("a widow for oneself in minute 40", () -> inMinute(people(row(MAN, 4, 4, OFF), row(WIDOW, 9, 0, OFF)), 40),
            x -> x.match(1), 1);
        told("a man with a man", () -> pair(MAN, 9, 2), x -> x.match(1), 1);
        told("a man with a girl, who weighs half of sorry more", () -> pair(GIRL, 9, 2), x -> x.match(1), 0);
        beyond("of", Edges::busy, SeeSawHearts::match, NOBODY);
        refused("of the first, where nobody is", Edges::empty, x -> x.match(0), BEYOND);
        refused("of a 9th", Edges::full, x -> x.match(8), BEYOND);
    }

    /** HEARTS 1, 2, 4, .. 64 and -127: no set but that of all is level. */
    private static SeeSawHearts allOrNothing() {
        SeeSawHearts x = empty();
        for (int p = 0; p < 7; p++) {
            one(x, MAN, 1 << p, 0, OFF);
        }
        one(x, GIRL, 0, 85, OFF);
        return x;
    }

    private static void seats() {
        promise(21);
        refused("nobody", Edges::empty, SeeSawHearts::seats, SIZE);
        refused("one", () -> alike(1, 0), SeeSawHearts::seats, SIZE);
        told("two, that are all", () -> people(row(CHILD, 99, 0, OFF), row(CHILD, 99, 0, OFF)), SeeSawHearts::seats, 3);
        told("all of eight", EdgesOfBest::allOrNothing, SeeSawHearts::seats, 255);
        // The one of HEART 2 alone would be level with the grievance.
        told("two at least", () -> hung(allOrNothing(), 0, 1), SeeSawHearts::seats, 3);
        told("of all sets the least", () -> alike(8, OFF), SeeSawHearts::seats, 3);
        told("by 1 too glad before by 1 too sorry", () -> people(row(MAN, 3, 0, 0), row(MAN, 0, 2, 1), row(MAN, 0, 4, 1)),
            SeeSawHearts::seats, 3);
        told("by 1 too sorry before by 1 too glad", () -> people(row(MAN, 3, 0, 0), row(MAN, 0, 4, 1), row(MAN, 0, 2, 1)),
            SeeSawHearts::seats, 3);
        told("the last two", () -> people(row(MAN, 9, 0, 0), row(MAN, 5, 0, 0), row(MAN, 0, 5, 0)), SeeSawHearts::seats, 6);
        told("the last two of eight", EdgesOfBest::lastTwo, SeeSawHearts::seats, 192);
        told("a grievance at end 0", () -> hung(people(row(MAN, 5, 0, 0), row(MAN, 0, 5, 0), row(MAN, 0, 3, 0)), 0, 1),
            SeeSawHearts::seats, 5);
        told("a grievance at end 1", () -> hung(people(row(MAN, 5, 0, 0), row(MAN, 0, 5, 0), row(MAN, 0, 3, 0)), 1, 1),
            SeeSawHearts::seats, 5);
        told("a widow in minute 39", () -> inMinute(withWidow(), 39), SeeSawHearts::seats, 5);
        told("a widow in minute 40", () -> inMinute(withWidow(), 40), SeeSawHearts::seats, 3);
    }

    private static SeeSawHearts lastTwo() {
        SeeSawHearts x = empty();
        for (int p = 0; p < 7; p++) {
            one(x, MAN, 20 + p, 0, OFF);
        }
        one(x, MAN, 0, 26, OFF);
        return x;
    }

    /** The widow's HEART is 9, and 0 from MINUTE 40 on; the man's is 0, the other man's -1. */
    private static SeeSawHearts withWidow() {
        return people(row(MAN, 0, 0, OFF), row(WIDOW, 9, 0, OFF), row(MAN, 0, 1, OFF));
    }

    /** It hangs, with TILT as told, and so many grievances in the BAG. */
    private static SeeSawHearts tilted(int tilt, int bag) {
        SeeSawHearts x = people(row(MAN, Math.max(0, tilt), Math.max(0, -tilt), 0), row(MAYOR, 0, 0, 1));
        x.bag(bag);
        return x;
    }

    private static void weights() {
        promise(22);
        told("none is needed", () -> tilted(0, 10), SeeSawHearts::weights, 0);
        told("none is needed of an empty bag", () -> tilted(0, 0), SeeSawHearts::weights, 0);
        told("one", () -> tilted(2, 10), SeeSawHearts::weights, 1);
        told("the only one", () -> tilted(2, 1), SeeSawHearts::weights, 1);
        refused("one of an empty bag", () -> tilted(2, 0), SeeSawHearts::weights, NONE);
        told("all of a full bag", () -> tilted(40, 20), SeeSawHearts::weights, 20);
        refused("one too few in the bag", () -> tilted(40, 19), SeeSawHearts::weights, NONE);
        refused("more than a bag can have", () -> tilted(42, 20), SeeSawHearts::weights, NONE);
        refused("odd", () -> tilted(1, 20), SeeSawHearts::weights, NONE);
        refused("too sorry by 1", () -> tilted(-1, 20), SeeSawHearts::weights, NONE);
        refused("too sorry by a grievance", () -> tilted(-2, 20), SeeSawHearts::weights, NONE);
        told("what is hung at end 0 counts", () -> hung(tilted(6, 10), 0, 2), SeeSawHearts::weights, 1);
        told("what is hung at end 1 counts", () -> hung(tilted(6, 10), 1, 2), SeeSawHearts::weights, 1);
        told("what is hung is out of the bag", () -> hung(tilted(6, 3), 1, 2), SeeSawHearts::weights, 1);
        refused("what is hung is out of the bag", () -> hung(tilted(8, 3), 1, 2), SeeSawHearts::weights, NONE);
        refused("nobody there", Edges::empty, SeeSawHearts::weights, NONE);
        refused("nobody at end 1", () -> alike(8, 0), SeeSawHearts::weights, NONE);
        refused("nobody at end 0", () -> alike(8, 1), SeeSawHearts::weights, NONE);
    }

    private static void sorrow() {
        promise(23);
        told("none is needed", () -> tilted(0, 0), x -> x.sorrow(0), 0);
        told("none is needed, of one that is off", () -> people(row(MAN, 0, 0, 0), row(MAN, 0, 0, 1), row(MAN, 9, 0, OFF)),
            x -> x.sorrow(2), 0);
        told("the least", () -> tilted(1, 0), x -> x.sorrow(0), 1);
        told("the greatest", () -> tilted(99, 0), x -> x.sorrow(0), 99);
        refused("one above the greatest", () -> people(row(MAN, 99, 0, 0), row(MAYOR, 2, 0, 1)), x -> x.sorrow(0), NONE);
        told("up to all of sorry", () -> people(row(MAN, 99, 98, 0), row(MAYOR, 0, 0, 1)), x -> x.sorrow(0), 1);
        refused("sorry can't be above 99", () -> people(row(MAN, 0, 99, 0), row(CHILD, 50, 0, 1)), x -> x.sorrow(0), NONE);
        told("of two that do it the least", () -> people(row(MAYOR, 10, 0, 0), row(MAN, 0, 4, 1)), x -> x.sorrow(0), 1);
        refused("too sorry by 1", () -> tilted(-1, 0), x -> x.sorrow(0), NONE);
        refused("one that is off", () -> people(row(MAN, 1, 0, 0), row(MAN, 0, 0, 1), row(MAN, 9, 0, OFF)),
            x -> x.sorrow(2), NONE);
        refused("nobody over against", () -> alike(8, 1), x -> x.sorrow(7), NONE);
        told("a widow in minute 39", () -> inMinute(people(row(WIDOW, 0, 0, 0), row(MAYOR, 6, 0, 1)), 39),
            x -> x.sorrow(0), 2);
        refused("a widow in minute 40", () -> inMinute(people(row(WIDOW, 0, 0, 0), row(MAYOR, 6, 0, 1)), 40),
            x -> x.sorrow(0), NONE);
        beyond("of", Edges::busy, SeeSawHearts::sorrow, NOBODY);
        refused("of the first, where nobody is", Edges::empty, x -> x.sorrow(0), BEYOND);
        refused("of a 9th", Edges::full, x -> x.sorrow(8), BEYOND);
    }

    /** One of GLAD 10 and SORRY 4: HEART 6, 4, 12, 3, 9, 4 by KIND. */
    private static SeeSawHearts against(int kind, int weight) {
        return people(row(kind, 10, 4, 0), row(MAN, 0, weight, 1));
    }

    private static void kind() {
        promise(24);
        int[] hearts = {6, 4, 12, 3, 9};
        for (int k = 0; k <= 4; k++) {
            for (int own = 0; own <= 5; own++) {
                int is = own;
                int weight = hearts[k];
                told("from " + own, () -> against(is, weight), x -> x.kind(0), k);
            }
        }
        told("of man and girl, as near, the least", () -> against(WIDOW, 5), x -> x.kind(0), MAN);
        told("far too sorry", () -> against(WIDOW, 99), x -> x.kind(0), CHILD);
        told("the nearest is not level", () -> against(WIDOW, 0), x -> x.kind(0), MAYOR);
        told("all as near", () -> people(row(WIDOW, 0, 0, 0), row(MAN, 0, 0, 1)), x -> x.kind(0), MAN);
        told("nobody over against", () -> alike(8, 1), x -> x.kind(7), MAN);
        told("one that is off", () -> people(row(MAN, 1, 0, 0), row(MAN, 0, 0, 1), row(ORPHAN, 9, 0, OFF)),
            x -> x.kind(2), MAN);
        told("in minute 39 a mayor", () -> lateAgainst(39), x -> x.kind(0), MAYOR);
        told("in minute 40 a widow", () -> lateAgainst(40), x -> x.kind(0), WIDOW);
        beyond("of", Edges::busy, SeeSawHearts::kind, NOBODY);
        refused("of the first, where nobody is", Edges::empty, x -> x.kind(0), BEYOND);
        refused("of a 9th", Edges::full, x -> x.kind(8), BEYOND);
    }

    /** As against(.., 0), once MINUTES have gone without mixing. */
    private static SeeSawHearts lateAgainst(int minute) {
        SeeSawHearts x = inMinute(people(row(MAN, 10, 4, OFF), row(MAN, 0, 0, 1)), minute);
        x.set(0, 3, 0);
        return x;
    }

    /** TILT is 10 without the man that is off, who is sorry. */
    private static SeeSawHearts waiting(int sorry) {
        return people(row(MAYOR, 20, 0, 0), row(MAYOR, 0, 0, 1), row(MAN, 0, sorry, OFF));
    }

    private static void delay() {
        promise(25);
        for (int e = 0; e <= 1; e++) {
            int end = e;
            told("at once, of the fewest", () -> waiting(12), x -> x.delay(2, end, 1), 0);
            told("all of the fewest", () -> waiting(10), x -> x.delay(2, end, 1), 1);
            refused("it would take 2", () -> waiting(14), x -> x.delay(2, end, 1), NONE);
            told("it takes 2 of 2", () -> waiting(14), x -> x.delay(2, end, 2), 0);
            told("it takes 2 of 60", () -> waiting(14), x -> x.delay(2, end, 60), 58);
            told("all of the most", () -> waiting(10), x -> x.delay(2, end, 60), 60);
            told("it takes all of 44", () -> waiting(98), x -> x.delay(2, end, 44), 0);
            refused("it takes one more", () -> waiting(98), x -> x.delay(2, end, 43), NONE);
            refused("not sorry enough, ever", () -> waiting(9), x -> x.delay(2, end, 60), NONE);
            beyond("n", () -> waiting(10), (x, v) -> x.delay(2, end, v), 0, 61, -1, LOW, HIGH);
        }
        told("of all the fewest", () -> people(row(MAYOR, 20, 0, 0), row(MAN, 0, 0, 1), row(MAYOR, 0, 20, OFF)),
            x -> x.delay(2, 1, 60), 0);
        told("another mixes all the while, whenever one sits",
            () -> people(row(MAN, 20, 0, 0), row(MAYOR, 0, 0, 1), row(MAYOR, 0, 20, OFF)), x -> x.delay(2, 1, 5), 0);
        // Its HEART goes 20, 18, .. 6; that of one that sat down 2 MINUTES ago is -6.
        told("another has mixed by then",
            () -> people(row(MAN, 20, 0, 0), row(MAYOR, 0, 0, 1), row(MAN, 0, 10, OFF)), x -> x.delay(2, 1, 7), 5);
        told("it does not hang meanwhile", () -> people(row(MAN, 10, 0, 0), row(MAYOR, 0, 20, OFF)),
            x -> x.delay(1, 1, 7), 7);
        refused("it never hangs", () -> people(row(MAN, 10, 0, 0), row(MAYOR, 0, 20, OFF)), x -> x.delay(1, 0, 7), NONE);
        refused("nobody else", () -> alike(1, OFF), x -> x.delay(0, 0, 60), NONE);
        told("a widow is eased in 40", () -> widowWaiting(0), x -> x.delay(2, 0, 40), 0);
        refused("a widow is not in 39", () -> widowWaiting(0), x -> x.delay(2, 0, 39), NONE);
        told("a widow is in 39 from 1 on", () -> widowWaiting(1), x -> x.delay(2, 0, 39), 0);
        delayFindings();
    }

    private static SeeSawHearts widowWaiting(int minute) {
        return inMinute(people(row(MAYOR, 0, 0, 0), row(MAYOR, 0, 0, 1), row(WIDOW, 0, 9, OFF)), minute);
    }

    private static void delayFindings() {
        beyond("of", Edges::busy, (x, v) -> x.delay(v, 0, 1), NOBODY);
        beyond("end", Edges::busy, (x, v) -> x.delay(2, v, 1), NO_END);
        refused("of the first, where nobody is", Edges::empty, x -> x.delay(0, 0, 1), BEYOND);
        refused("of a 9th", Edges::full, x -> x.delay(8, 0, 1), BEYOND);
        refused("it sits at end 0", Edges::busy, x -> x.delay(1, 0, 1), STATE);
        refused("it sits at end 1", Edges::busy, x -> x.delay(0, 0, 60), STATE);
        refused("the last of eight sits", Edges::full, x -> x.delay(7, 0, 60), STATE);
        beyond("end is asked before state", Edges::busy, (x, v) -> x.delay(0, v, 1), NO_END);
        beyond("n is asked before state", Edges::busy, (x, v) -> x.delay(0, 0, v), 0, 61, -1, LOW, HIGH);
    }

    /** HEARTS 1 at END 0, n of them, and one at END 1 of HEART -1. */
    private static SeeSawHearts many(int n) {
        SeeSawHearts x = empty();
        for (int p = 0; p < n; p++) {
            one(x, MAN, 1, 0, 0);
        }
        one(x, MAN, 0, 1, 1);
        return x;
    }

    /** The same, with the ENDS changed. */
    private static SeeSawHearts manyOver(int n) {
        SeeSawHearts x = many(n);
        for (int p = 0; p <= n; p++) {
            x.set(p, 3, 1 - x.of(p, 3));
        }
        return x;
    }

    private static void fewest() {
        promise(26);
        told("nobody, as it is level, end 0", () -> many(1), x -> x.fewest(0), 0);
        told("nobody, as it is level, end 1", () -> many(1), x -> x.fewest(1), 0);
        told("the least of two", () -> many(2), x -> x.fewest(0), 1);
        told("all but the last of seven, end 0", () -> many(7), x -> x.fewest(0), 63);
        told("all but the last of seven, end 1", () -> manyOver(7), x -> x.fewest(1), 63);
        refused("none of the other end", () -> many(7), x -> x.fewest(1), NONE);
        refused("the only one may not go, end 0", () -> tilted(5, 0), x -> x.fewest(0), NONE);
        refused("the only one may not go, end 1", () -> people(row(MAN, 5, 0, 1), row(MAN, 0, 0, 0)), x -> x.fewest(1), NONE);
        refused("not all of them may go", () -> people(row(MAN, 5, 0, 0), row(MAN, 4, 0, 0), row(MAN, 0, 0, 1)),
            x -> x.fewest(0), NONE);
        told("one rather than two of lesser numbers",
            () -> people(row(MAN, 1, 0, 0), row(MAN, 2, 0, 0), row(MAN, 3, 0, 0), row(MAN, 0, 3, 1)), x -> x.fewest(0), 4);
        told("one that is sorry", () -> people(row(MAN, 0, 5, 0), row(MAN, 0, 0, 0), row(MAN, 0, 0, 1)), x -> x.fewest(0), 1);
        refused("none by 1", () -> people(row(MAN, 4, 0, 0), row(MAN, 2, 0, 0), row(MAN, 0, 3, 1)), x -> x.fewest(0), NONE);
        refused("one that is off can't go", () -> people(row(MAN, 4, 0, OFF), row(MAN, 4, 0, 0), row(MAN, 0, 0, 1)),
            x -> x.fewest(0), NONE);
        told("grievances count", () -> hung(people(row(MAN, 4, 0, 0), row(MAN, 2, 0, 0), row(MAN, 0, 0, 1)), 1, 1),
            x -> x.fewest(0), 1);
        refused("nobody there", Edges::empty, x -> x.fewest(0), NONE);
        refused("nobody at end 1", () -> alike(8, 0), x -> x.fewest(0), NONE);
        refused("nobody at the end that is asked", () -> alike(8, 0), x -> x.fewest(1), NONE);
        told("a widow in minute 40", () -> inMinute(withWidowOn(), 40), x -> x.fewest(0), 0);
        told("a widow in minute 39", () -> inMinute(withWidowOn(), 39), x -> x.fewest(0), 1);
        beyond("end", Edges::busy, SeeSawHearts::fewest, NO_END);
        beyond("end is asked before none", Edges::empty, SeeSawHearts::fewest, NO_END);
    }

    private static SeeSawHearts withWidowOn() {
        return people(row(WIDOW, 0, 9, 0), row(MAYOR, 0, 0, 0), row(MAYOR, 0, 0, 1));
    }

    /** TILT is 10 without the mayor that is off, whose HEART is that less. */
    private static SeeSawHearts asked(int less) {
        return people(row(MAYOR, 20, 0, 0), row(MAYOR, 0, 0, 1), row(MAYOR, 0, 2 * less, OFF));
    }

    private static void helps() {
        promise(27);
        for (int n : new int[] {0, 60}) {
            told("nearer by 1", () -> asked(1), x -> x.helps(2, 0, n), 1);
            told("level", () -> asked(10), x -> x.helps(2, 1, n), 1);
            told("beyond it, but nearer by 1", () -> asked(19), x -> x.helps(2, 0, n), 1);
            told("beyond it as far as it was", () -> asked(20), x -> x.helps(2, 0, n), 0);
            told("beyond it and farther by 1", () -> asked(21), x -> x.helps(2, 1, n), 0);
            told("as it was", () -> asked(0), x -> x.helps(2, 0, n), 0);
            told("it hangs then", () -> people(row(MAYOR, 20, 0, 0), row(MAYOR, 99, 0, OFF)), x -> x.helps(1, 1, n), 1);
            told("it does not hang then", () -> people(row(MAYOR, 20, 0, 0), row(MAYOR, 99, 0, OFF)), x -> x.helps(1, 0, n), 0);
            told("nobody else", () -> alike(1, OFF), x -> x.helps(0, 0, n), 0);
        }
        told("it mixes from now on", () -> waiting(20), x -> x.helps(2, 0, 0), 0);
        told("it mixes from now on", () -> waiting(20), x -> x.helps(2, 0, 1), 1);
        told("it is mixed", () -> waiting(20), x -> x.helps(2, 0, 10), 0);
        told("another mixes, without as with", () -> people(row(MAN, 20, 0, 0), row(MAYOR, 0, 0, 1), row(MAYOR, 0, 30, OFF)),
            x -> x.helps(2, 0, 9), 0);
        told("another has not mixed yet", () -> people(row(MAN, 20, 0, 0), row(MAYOR, 0, 0, 1), row(MAYOR, 0, 30, OFF)),
            x -> x.helps(2, 0, 0), 1);
        told("a widow in 39", () -> people(row(MAYOR, 20, 0, 0), row(MAYOR, 0, 0, 1), row(WIDOW, 0, 5, OFF)),
            x -> x.helps(2, 0, 39), 1);
        told("a widow in 40", () -> people(row(MAYOR, 20, 0, 0), row(MAYOR, 0, 0, 1), row(WIDOW, 0, 5, OFF)),
            x -> x.helps(2, 0, 40), 0);
        beyond("of", Edges::busy, (x, v) -> x.helps(v, 0, 1), NOBODY);
        beyond("end", Edges::busy, (x, v) -> x.helps(2, v, 1), NO_END);
        beyond("n", Edges::busy, (x, v) -> x.helps(2, 0, v), -1, 61, LOW, HIGH);
        refused("of the first, where nobody is", Edges::empty, x -> x.helps(0, 0, 0), BEYOND);
        refused("of a 9th", Edges::full, x -> x.helps(8, 0, 0), BEYOND);
        refused("it sits at end 0", Edges::busy, x -> x.helps(1, 0, 0), STATE);
        refused("it sits at end 1", Edges::busy, x -> x.helps(0, 0, 60), STATE);
        refused("the last of eight sits", Edges::full, x -> x.helps(7, 1, 0), STATE);
        beyond("end is asked before state", Edges::busy, (x, v) -> x.helps(0, v, 1), NO_END);
        beyond("n is asked before state", Edges::busy, (x, v) -> x.helps(0, 0, v), -1, 61, LOW, HIGH);
    }

    public static void main(String[] args) {
        match();
        seats();
        weights();
        sorrow();
        kind();
        delay();
        fewest();
        helps();
        end();
    }
}
