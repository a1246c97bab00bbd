/** The boundaries of promises 31 to 36. */
public final class EdgesOfSheets extends Edges {
    private static final int[] NO_SHEET = {-1, 4, LOW, HIGH};
    private static final int[] BITS = {8, 16, 64};

    private static SeeSawHearts laid(int bits, int n) {
        SeeSawHearts x = empty();
        x.sheet(0, bits, n);
        return x;
    }

    private static void sheet() {
        promise(31);
        for (int s = 0; s <= 3; s++) {
            for (int bits : BITS) {
                for (int n : new int[] {0, 1, 39, 40}) {
                    SeeSawHearts x = busy();
                    due("sheet " + s + " of " + bits + " bits, " + n, x.sheet(s, bits, n), n);
                    for (int i = 0; i < n; i++) {
                        due("number " + i + " is 0", x.write(s, i, -1), 0);
                    }
                    due("there is none behind the last", x.write(s, n, 0), BEYOND);
                }
            }
            SeeSawHearts x = full();
            due("missing, with the least n", x.sheet(s, 0, 0), 0);
            due("it is missing", x.write(s, 0, 0), MISSING);
            due("missing once more, with the greatest n", x.sheet(s, 0, 40), 0);
            due("it is missing", x.book(s), MISSING);
        }
        anew();
        beyond("no such sheet", Edges::busy, (x, v) -> x.sheet(v, 8, 1), NO_SHEET);
        beyond("other bits", Edges::busy, (x, v) -> x.sheet(0, v, 1), -8, -1, 1, 7, 9, 15, 17, 32, 63, 65, 128, LOW, HIGH);
        for (int b : new int[] {0, 8, 16, 64}) {
            for (int n : new int[] {-1, LOW}) {
                refused("n " + n + ", bits " + b, Edges::busy, x -> x.sheet(0, b, n), SIZE);
                refused("n " + n + ", bits " + b, Edges::full, x -> x.sheet(3, b, n), SIZE);
            }
            beyond("bits " + b + ", n", Edges::busy, (x, v) -> x.sheet(0, b, v), 41, HIGH);
            beyond("bits " + b + ", n", Edges::full, (x, v) -> x.sheet(3, b, v), 41, HIGH);
            beyond("no such sheet is asked before size", Edges::busy, (x, v) -> x.sheet(v, b, -1), NO_SHEET);
        }
        beyond("other bits are asked before size", Edges::busy, (x, v) -> x.sheet(0, v, -1), -8, 1, 32, LOW, HIGH);
    }

    /** What stood on a sheet before does not come back. */
    private static void anew() {
        SeeSawHearts x = laid(8, 40);
        for (int i = 0; i < 40; i++) {
            x.write(0, i, 7);
        }
        x.sheet(0, 8, 3);
        x.sheet(0, 16, 40);
        for (int i = 0; i < 40; i++) {
            due("number " + i + " is 0 again", x.write(0, i, 9), 0);
        }
        x.sheet(0, 0, 5);
        x.sheet(0, 64, 40);
        for (int i = 0; i < 40; i++) {
            due("number " + i + " is 0 after it was missing", x.write(0, i, 9), 0);
        }
        due("no other sheet has any", x.write(1, 0, 0), MISSING);
    }

    private static void cut(int bits, long v, long want) {
        SeeSawHearts x = laid(bits, 1);
        due("0 at first", x.write(0, 0, v), 0);
        due(v + " on a sheet of " + bits + " bits", x.write(0, 0, 0), want);
    }

    private static void write() {
        promise(32);
        long[] least = {-128, -32768, Long.MIN_VALUE};
        long[] most = {127, 32767, Long.MAX_VALUE};
        for (int k = 0; k < 3; k++) {
            cut(BITS[k], least[k], least[k]);
            cut(BITS[k], most[k], most[k]);
            cut(BITS[k], least[k] - 1, most[k]);
            cut(BITS[k], most[k] + 1, least[k]);
            cut(BITS[k], -1, -1);
        }
        cut(8, 255, -1);
        cut(8, 256, 0);
        cut(8, 257, 1);
        cut(8, -256, 0);
        cut(8, Long.MIN_VALUE, 0);
        cut(8, Long.MAX_VALUE, -1);
        cut(16, 65535, -1);
        cut(16, 65536, 0);
        cut(16, 65537, 1);
        cut(16, Long.MIN_VALUE, 0);
        cut(16, Long.MAX_VALUE, -1);
        cut(64, 1L << 32, 1L << 32);
        cut(64, -1L << 32, -1L << 32);
        cut(64, BEYOND, BEYOND);
        SeeSawHearts like = laid(64, 1);
        like.write(0, 0, BEYOND);
        like.write(0, 0, 0);
        due("a number like a finding is none", like.status(-1), 0);
        SeeSawHearts x = full();
        due("the first", x.write(2, 0, 5), -1);
        due("the last", x.write(2, 39, 6), 100);
        due("not its neighbour", x.write(2, 38, 0), 0);
        due("the first now", x.write(2, 0, 0), 5);
        due("the last now", x.write(2, 39, 0), 6);
        writeFindings();
    }

    private static void writeFindings() {
        beyond("no such sheet", Edges::busy, (x, v) -> x.write(v, 0, 1), NO_SHEET);
        beyond("no such sheet is asked before the number", Edges::busy, (x, v) -> x.write(v, 99, 1), NO_SHEET);
        beyond("no such sheet", Edges::empty, (x, v) -> x.write(v, 0, 1), NO_SHEET);
        for (int i : new int[] {0, -1, 40, LOW, HIGH}) {
            refused("missing is asked before number " + i, Edges::busy, x -> x.write(3, i, 1), MISSING);
        }
        beyond("no such number of five", Edges::busy, (x, v) -> x.write(0, v, 1), -1, 5, 39, 40, LOW, HIGH);
        beyond("no such number of none", Edges::busy, (x, v) -> x.write(2, v, 1), -1, 0, 1, LOW, HIGH);
        beyond("no such number of 40", Edges::full, (x, v) -> x.write(3, v, 1), -1, 40, LOW, HIGH);
    }

    /** Sheets 0 (numbers 1, 2, .. 40) and 1 (all 0) alike, 2 of other bits, 3 MISSING. */
    private static SeeSawHearts rows() {
        SeeSawHearts x = empty();
        x.sheet(0, 8, 40);
        x.sheet(1, 8, 40);
        x.sheet(2, 16, 40);
        for (int i = 0; i < 40; i++) {
            x.write(0, i, i + 1);
        }
        return x;
    }

    private static void copyDue(int s, int from, int t, int to, int n) {
        SeeSawHearts x = rows();
        String name = "copy(" + s + ", " + from + ", " + t + ", " + to + ", " + n + ")";
        due(name, x.copy(s, from, t, to, n), n);
        for (int sheet = 0; sheet <= 1; sheet++) {
            for (int i = 0; i < 40; i++) {
                boolean isCopied = sheet == t && i >= to && i < to + n;
                int at = isCopied ? i - to + from : i;
                int row = isCopied ? s : sheet;
                due(name + ", number " + i + " of sheet " + sheet, x.write(sheet, i, 0), row == 0 ? at + 1 : 0);
            }
        }
    }

    private static void copy() {
        promise(33);
        copyDue(0, 0, 1, 0, 40);
        copyDue(0, 0, 1, 0, 0);
        copyDue(0, 40, 1, 40, 0);
        copyDue(0, 0, 1, 40, 0);
        copyDue(0, 39, 1, 0, 1);
        copyDue(0, 0, 1, 39, 1);
        copyDue(1, 0, 0, 1, 39);
        // A sheet to itself, as all the numbers were.
        copyDue(0, 0, 0, 0, 40);
        copyDue(0, 0, 0, 1, 39);
        copyDue(0, 1, 0, 0, 39);
        copyDue(0, 0, 0, 20, 20);
        copyDue(0, 5, 0, 7, 10);
        copyDue(0, 7, 0, 5, 10);
        copyWide();
        copyFindings();
        copyBeyond();
    }

    private static void copyWide() {
        SeeSawHearts x = empty();
        x.sheet(0, 64, 1);
        x.sheet(3, 64, 1);
        x.write(0, 0, Long.MIN_VALUE + 5);
        due("a number of 64 bits", x.copy(0, 0, 3, 0, 1), 1);
        due("whole", x.write(3, 0, 0), Long.MIN_VALUE + 5);
        SeeSawHearts y = empty();
        y.sheet(0, 16, 0);
        y.sheet(1, 16, 0);
        due("none of none", y.copy(0, 0, 1, 0, 0), 0);
        due("one of none", y.copy(0, 0, 1, 0, 1), BEYOND);
        due("none behind none", y.copy(0, 1, 1, 0, 0), BEYOND);
    }

    private static void copyFindings() {
        beyond("no such sheet to come from", EdgesOfSheets::rows, (x, v) -> x.copy(v, 0, 0, 0, 1), NO_SHEET);
        beyond("no such sheet to come to", EdgesOfSheets::rows, (x, v) -> x.copy(0, 0, v, 0, 1), NO_SHEET);
        beyond("asked before missing", EdgesOfSheets::rows, (x, v) -> x.copy(v, 0, 3, 0, 1), NO_SHEET);
        beyond("asked before missing", EdgesOfSheets::rows, (x, v) -> x.copy(3, 0, v, 0, 1), NO_SHEET);
        for (int n : new int[] {1, -1, 41, LOW, HIGH}) {
            refused("missing to come from", EdgesOfSheets::rows, x -> x.copy(3, n, 0, n, n), MISSING);
            refused("missing to come to", EdgesOfSheets::rows, x -> x.copy(0, n, 3, n, n), MISSING);
            refused("missing is asked before the kind", EdgesOfSheets::rows, x -> x.copy(2, n, 3, n, n), MISSING);
            refused("missing, both", EdgesOfSheets::rows, x -> x.copy(3, n, 3, n, n), MISSING);
            refused("other bits", EdgesOfSheets::rows, x -> x.copy(0, n, 2, n, n), KIND);
            refused("other bits", EdgesOfSheets::rows, x -> x.copy(2, n, 0, n, n), KIND);
        }
        refused("of other bits, none", EdgesOfSheets::rows, x -> x.copy(2, 0, 0, 0, 0), KIND);
    }

    private static void copyBeyond() {
        Scene rows = EdgesOfSheets::rows;
        beyond("from", rows, (x, v) -> x.copy(0, v, 1, 0, 1), -1, 40, LOW, HIGH);
        beyond("to", rows, (x, v) -> x.copy(0, 0, 1, v, 1), -1, 40, LOW, HIGH);
        beyond("n", rows, (x, v) -> x.copy(0, 0, 1, 0, v), -1, 41, LOW, HIGH);
        beyond("from, of all", rows, (x, v) -> x.copy(0, v, 1, 0, 40), 1, -1);
        beyond("to, of all", rows, (x, v) -> x.copy(0, 0, 1, v, 40), 1, -1);
        beyond("from, of none", rows, (x, v) -> x.copy(0, v, 1, 0, 0), -1, 41, LOW, HIGH);
        beyond("to, of none", rows, (x, v) -> x.copy(0, 0, 1, v, 0), -1, 41, LOW, HIGH);
        // Sums that would wrap around.
        beyond("from and n", rows, (x, v) -> x.copy(0, v, 1, 0, HIGH), 1, 2, 40, HIGH);
        beyond("to and n", rows, (x, v) -> x.copy(0, 0, 1, v, HIGH), 1, 2, 40, HIGH);
        beyond("from below 0 and n", rows, (x, v) -> x.copy(0, v, 1, 0, 2), -1, LOW);
        beyond("n below 0 behind from", rows, (x, v) -> x.copy(0, 20, 1, 20, v), -1, -20, LOW);
        beyond("a shorter one to come to", Edges::busy, (x, v) -> x.copy(2, 0, 2, v, 1), 0, 1);
        SeeSawHearts x = rows();
        x.sheet(1, 8, 3);
        due("all of the shorter", x.copy(0, 37, 1, 0, 3), 3);
        due("one too many for it", x.copy(0, 0, 1, 0, 4), BEYOND);
        due("one too many of it", x.copy(1, 0, 0, 0, 4), BEYOND);
    }

    private static void laysDue(int bits, long v, boolean isLaid, int glad) {
        SeeSawHearts x = laid(bits, 2);
        one(x, MAN, 50, 60, 1);
        one(x, MAN, 51, 61, 1);
        x.write(0, 0, v);
        x.write(0, 1, -1);
        due(v + " of " + bits + " bits: how many", x.lays(0), isLaid ? 1 : 0);
        due(v + " of " + bits + " bits: glad", x.of(0, 1), isLaid ? glad : 50);
        due("the other is left out", x.of(1, 1), 51);
        due("sorry stays", x.of(0, 2), 60);
        due("the sheet stays", x.write(0, 1, 0), -1);
    }

    private static void lays() {
        promise(34);
        for (int bits : BITS) {
            laysDue(bits, 0, true, 0);
            laysDue(bits, 99, true, 99);
            laysDue(bits, -1, false, 0);
            laysDue(bits, 100, false, 0);
            laysDue(bits, 127, false, 0);
        }
        laysDue(8, 128, false, 0);
        laysDue(8, 256 + 7, true, 7);
        laysDue(8, 255, false, 0);
        laysDue(16, 256 + 7, false, 0);
        laysDue(16, 65536 + 7, true, 7);
        laysDue(64, 65536 + 7, false, 0);
        laysDue(64, (1L << 32) + 7, false, 0);
        laysDue(64, Long.MIN_VALUE, false, 0);
        laysDue(64, Long.MIN_VALUE + 7, false, 0);
        laysDue(64, Long.MAX_VALUE, false, 0);
        told("a sheet of none", Edges::busy, x -> x.lays(2), 0);
        told("nobody there", () -> laid(8, 40), x -> x.lays(0), 0);
        laysMany();
        beyond("no such sheet", Edges::busy, SeeSawHearts::lays, NO_SHEET);
        beyond("no such sheet", Edges::empty, SeeSawHearts::lays, NO_SHEET);
        refused("missing", Edges::busy, x -> x.lays(3), MISSING);
        refused("missing, where nobody is", Edges::empty, x -> x.lays(0), MISSING);
    }

    private static void laysMany() {
        SeeSawHearts x = full();
        for (int i = 0; i < 40; i++) {
            x.write(1, i, 10 + i);
        }
        due("40 numbers for eight", x.lays(1), 8);
        for (int p = 0; p < 8; p++) {
            due("glad of " + p, x.of(p, 1), 10 + p);
        }
        SeeSawHearts y = full();
        y.sheet(0, 8, 7);
        due("seven numbers for eight", y.lays(0), 7);
        due("glad of the seventh", y.of(6, 1), 0);
        due("glad of the last", y.of(7, 1), 99);
    }

    /** It hangs with a TILT that stays. */
    private static SeeSawHearts still(int tilt) {
        SeeSawHearts x = empty();
        one(x, ORPHAN, 0, 0, 0);
        one(x, MAYOR, 0, 0, 1);
        for (int p = 2; p < 7; p++) {
            one(x, MAYOR, 0, 0, 0);
        }
        int rest = tilt + 3;
        for (int p = 1; p < 7; p++) {
            int part = Math.max(-49, Math.min(49, rest));
            x.set(p, part < 0 ? 2 : 1, 2 * Math.abs(part));
            rest -= part;
        }
        return x;
    }

    private static void bookDue(int tilt, int bits, long want) {
        SeeSawHearts x = still(tilt);
        due("tilt", x.now(2), 10000 + tilt);
        x.sheet(3, bits, 3);
        due("a book of " + bits + " bits", x.book(3), 3);
        for (int i = 0; i < 3; i++) {
            due("tilt " + tilt + " in " + bits + " bits", x.write(3, i, 0), want);
        }
        due("no minute goes", x.now(0), 0);
    }

    private static void book() {
        promise(35);
        int[] tilts = {0, 1, -1, 127, 128, -128, -129, 255, 256, -256};
        int[] cut = {0, 1, -1, 127, -128, -128, 127, -1, 0, 0};
        for (int k = 0; k < tilts.length; k++) {
            bookDue(tilts[k], 8, cut[k]);
            bookDue(tilts[k], 16, tilts[k]);
            bookDue(tilts[k], 64, tilts[k]);
        }
        int[] notHanging = {-120, 5000, 5000};
        for (int k = 0; k < 3; k++) {
            SeeSawHearts x = laid(BITS[k], 40);
            due("as many as there can be", x.book(0), 40);
            for (int i = 0; i < 40; i++) {
                due("not hanging, in " + BITS[k] + " bits", x.write(0, i, 0), notHanging[k]);
            }
            SeeSawHearts none = laid(BITS[k], 0);
            due("as few as there can be", none.book(0), 0);
        }
        told("none", Edges::busy, x -> x.book(2), 0);
        bookOfWidow();
        beyond("no such sheet", Edges::busy, SeeSawHearts::book, NO_SHEET);
        beyond("no such sheet", Edges::empty, SeeSawHearts::book, NO_SHEET);
        refused("missing", Edges::busy, x -> x.book(3), MISSING);
        refused("missing", Edges::empty, x -> x.book(0), MISSING);
    }

    /** From MINUTE 1 on, so that the last of 40 numbers tells of MINUTE 40. */
    private static void bookOfWidow() {
        SeeSawHearts x = laid(16, 40);
        one(x, WIDOW, 0, 9, 0);
        one(x, MAYOR, 0, 0, 1);
        x.minutes(1);
        x.book(0);
        due("a widow in minute 1", x.write(0, 0, 0), -13);
        due("a widow in minute 39", x.write(0, 38, 0), -13);
        due("a widow in minute 40", x.write(0, 39, 0), 0);
        due("it is minute 1", x.now(0), 1);
    }

    /** One at END 0 over against a mayor of HEART 0; a sheet of one number. */
    private static SeeSawHearts readable(int glad, int minute, int bits, long number) {
        SeeSawHearts x = laid(bits, 1);
        one(x, MAN, glad, 0, 0);
        until(x, minute);
        one(x, MAYOR, 0, 0, 1);
        one(x, MAYOR, 0, 0, OFF);
        x.write(0, 0, number);
        return x;
    }

    private static void readDue(String name, int glad, int minute, int tilt, int want) {
        for (int bits : BITS) {
            told(name + ", " + bits + " bits", () -> readable(glad, minute, bits, tilt), x -> x.read(0, 0), want);
        }
    }

    private static void read() {
        promise(36);
        // man 99, girl 66, child 99, mayor 98 and 99, widow 66; once she is eased, a widow with any.
        readDue("level, of the greatest glad", 99, 0, 0, 6);
        readDue("level, in minute 39", 99, 39, 0, 6);
        readDue("level, in minute 40", 99, 40, 0, 105);
        // man, girl, child, mayor (1 as well), widow: each with 0.
        readDue("level, of the least glad", 0, 0, 0, 6);
        // man 99, girl 66, orphan 48, widow 66.
        readDue("the least of a man", 0, 0, -99, 4);
        // man 49, girl 33, mayor 98 and 99, orphan 23, widow 33.
        readDue("the least of a mayor", 0, 0, -49, 6);
        // man 50, child 25.
        readDue("one below that of a mayor", 0, 0, -50, 2);
        // man 0, girl 0, orphan 48, widow 0.
        readDue("the greatest of a man", 99, 0, 99, 4);
        readSorrows();
        told("no numbers, of one", Edges::busy, x -> x.read(2, 0), 600);
        told("no numbers, of one that is off", Edges::busy, x -> x.read(2, 2), 600);
        told("of one that is off, so", () -> readable(7, 0, 16, 7), x -> x.read(0, 2), 600);
        told("of one that is off, not so", () -> readable(7, 0, 16, 6), x -> x.read(0, 2), 0);
        for (int bits : BITS) {
            told("not hanging, not so", () -> alone(bits, 4999), x -> x.read(0, 0), 0);
        }
        told("not hanging, 16 bits", () -> alone(16, 5000), x -> x.read(0, 0), 600);
        told("not hanging, 64 bits", () -> alone(64, 5000), x -> x.read(0, 0), 600);
        told("no number of 8 bits is 5000", () -> alone(8, 5000), x -> x.read(0, 0), 0);
        told("64 bits are not cut", () -> alone(64, (1L << 32) + 5000), x -> x.read(0, 0), 0);
        readAll();
        beyond("no such sheet", Edges::busy, (x, v) -> x.read(v, 0), NO_SHEET);
        beyond("no such sheet is asked before the person", Edges::busy, (x, v) -> x.read(v, v), NO_SHEET);
        refused("missing", Edges::busy, x -> x.read(3, 0), MISSING);
        for (int p : new int[] {-1, 6, 8, LOW, HIGH}) {
            refused("missing is asked before person " + p, Edges::busy, x -> x.read(3, p), MISSING);
            refused("person " + p, Edges::busy, x -> x.read(0, p), BEYOND);
            refused("person " + p + ", no numbers", Edges::busy, x -> x.read(2, p), BEYOND);
        }
        refused("of the first, where nobody is", () -> laid(8, 1), x -> x.read(0, 0), BEYOND);
        refused("of a 9th", Edges::full, x -> x.read(0, 8), BEYOND);
    }

    private static SeeSawHearts alone(int bits, long number) {
        SeeSawHearts x = laid(bits, 1);
        one(x, MAN, 7, 0, 0);
        x.write(0, 0, number);
        return x;
    }

    /** The least and the greatest SORRY that a pair can have, by numbers that only an orphan can make. */
    private static void readSorrows() {
        told("an orphan with 99", () -> readable(0, 0, 16, -201), x -> x.read(0, 0), 1);
        told("an orphan with 100 is none", () -> readable(0, 0, 16, -203), x -> x.read(0, 0), 0);
        told("an orphan with 0", () -> readable(99, 0, 16, 195), x -> x.read(0, 0), 1);
        told("a child with 0", () -> readable(99, 0, 16, 198), x -> x.read(0, 0), 1);
        told("one less than 0 is none", () -> readable(99, 0, 16, 200), x -> x.read(0, 0), 0);
        told("a child with 99", () -> readable(0, 0, 16, -198), x -> x.read(0, 0), 1);
    }

    /** All 40 numbers count, the last as well, and the feelings of one as they are stay. */
    private static void readAll() {
        SeeSawHearts x = laid(16, 40);
        one(x, CHILD, 99, 1, 0);
        one(x, MAYOR, 0, 0, 1);
        x.book(0);
        due("by all of 40", x.read(0, 0), 1);
        x.write(0, 39, 1);
        due("but for the last", x.read(0, 0), 0);
        x.write(0, 39, 0);
        x.write(0, 0, 197);
        due("but for the first", x.read(0, 0), 0);
        due("sorry stays", x.of(0, 2), 1);
        due("kind stays", x.of(0, 0), CHILD);
        x.set(0, 3, OFF);
        x.book(0);
        due("all of 40, not hanging", x.read(0, 1), 600);
        due("all of 40, of one that is off", x.read(0, 0), 600);
        x.write(0, 39, 4999);
        due("but for the last, of one that is off", x.read(0, 0), 0);
        readOthers();
    }

    /** Another one mixes, whatever the pair is, and a widow is eased while the numbers go on. */
    private static void readOthers() {
        SeeSawHearts x = laid(16, 3);
        one(x, MAN, 9, 0, 0);
        one(x, CHILD, 30, 0, 1);
        int[] tilts = {9 + 60, 7 + 48, 5 + 36};
        for (int i = 0; i < 3; i++) {
            x.write(0, i, tilts[i]);
        }
        due("a man beside a child that mixes", x.read(0, 0), 1);
        x.write(0, 2, 5 + 60);
        due("none beside one that does not", x.read(0, 0), 0);
        for (int minute = 38; minute <= 40; minute++) {
            SeeSawHearts late = readable(9, minute, 8, 0);
            late.sheet(0, 8, 2);
            late.write(0, 0, 9);
            due("a widow is eased from minute 40 on, in " + minute, late.read(0, 0), minute == 39 ? 1 : 0);
        }
    }

    public static void main(String[] args) {
        sheet();
        write();
        copy();
        lays();
        book();
        read();
        end();
    }
}
