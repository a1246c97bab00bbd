/** The boundaries of promises 28 to 30. */
public final class EdgesOfText extends Edges {
    private static final String[] KINDS = {"man", "girl", "child", "mayor", "orphan", "widow"};

    /** Six people, and nothing on the tape. */
    private static SeeSawHearts wiped() {
        SeeSawHearts x = busy();
        x.wipe();
        return x;
    }

    private static SeeSawHearts fullWiped() {
        SeeSawHearts x = full();
        x.wipe();
        return x;
    }

    private static SeeSawHearts blanks(int n) {
        SeeSawHearts x = wiped();
        for (int k = 0; k < n; k++) {
            x.feed(' ', 1);
        }
        return x;
    }

    private static long parked(SeeSawHearts x, String text) {
        tape(x, text);
        return x.park();
    }

    /** A text with a FAULT: nothing changes, and it is no finding. */
    private static void fault(Scene scene, String text, int place) {
        told("fault of '" + text + "'", scene, x -> parked(x, text), -1 - place);
    }

    private static void fault(String text, int place) {
        fault(EdgesOfText::wiped, text, place);
    }

    /** A text that ends too early. */
    private static void early(String text) {
        fault(text, text.length());
    }

    private static SeeSawHearts good(String text, int items) {
        SeeSawHearts x = wiped();
        due("items of '" + text + "'", parked(x, text), items);
        due("the tape is empty after '" + text + "'", x.count(1), 0);
        return x;
    }

    private static void feed() {
        promise(28);
        for (int n = 1; n <= 4; n++) {
            due(n + " bytes to an empty tape", empty().feed(0x20202020, n), n);
        }
        for (int had = 112; had <= 120; had++) {
            for (int more = 1; more <= 4; more++) {
                int length = had;
                int n = more;
                if (had + more <= 120) {
                    due(n + " bytes behind " + length, blanks(length).feed(0, n), length + n);
                } else {
                    refused(n + " bytes behind " + length, () -> blanks(length), x -> x.feed(0, n), FULL);
                }
            }
        }
        for (int n = 1; n <= 4; n++) {
            int more = n;
            refused(n + " bytes to a full tape", Edges::full, x -> x.feed(0x20202020, more), FULL);
        }
        int[] notSo = {0, 5, -1, LOW, HIGH};
        beyond("n", Edges::empty, (x, v) -> x.feed(0, v), notSo);
        beyond("n", Edges::busy, (x, v) -> x.feed(-1, v), notSo);
        beyond("n is asked before full", Edges::full, (x, v) -> x.feed(0, v), notSo);
        whichBytes();
    }

    private static long parkOf(int bytes, int n) {
        SeeSawHearts x = empty();
        x.feed(bytes, n);
        return x.park();
    }

    private static void whichBytes() {
        int man = 'm' << 16 | 'a' << 8 | 'n';
        due("the highest first", parkOf(man, 3), 1);
        due("what is above the lowest three is left out", parkOf(0xFF000000 | man, 3), 1);
        due("of four the highest first", parkOf(0xFF000000 | man, 4), -1);
        due("of four the lowest last", parkOf(man << 8 | 0xFF, 4), -4);
        due("a byte of 128", parkOf(man << 8 | 0x80, 4), -4);
        due("a blank in the highest", parkOf(0x20000000 | man, 4), 1);
        SeeSawHearts x = empty();
        x.feed(0x7A7A0000 | 'b' << 8 | 'a', 2);
        x.feed(0x7A7A7A00 | 'g', 1);
        x.feed(0x7A7A7A00 | '7', 1);
        due("two and one and one", x.park(), 1);
        due("in the order in which they came", x.now(1), 7);
    }

    private static void wipe() {
        promise(29);
        told("an empty tape", Edges::empty, SeeSawHearts::wipe, 0);
        due("a full tape", full().wipe(), 120);
        due("one byte", blanks(1).wipe(), 1);
        SeeSawHearts x = full();
        x.wipe();
        due("it is empty", x.count(1), 0);
        due("nothing is left to wipe", x.wipe(), 0);
        due("there is room again", x.feed(0, 4), 4);
        told("a full one is no text then", EdgesOfText::fullWiped, SeeSawHearts::park, -1);
    }

    private static void tooEarly() {
        promise(30);
        early("");
        early(" ");
        early(" ".repeat(120));
        early("man;");
        early("man; ");
        early("bag");
        early("bag ");
        early("man glad");
        early("man glad ");
        early("man glad 1 sorry");
        early("man sorry ");
        early("man glad 1 sorry 2 on");
        early("man on ");
        early("news");
        early("news 0");
        early("news 0 ");
        early("news 0 1");
        early("news 0 1 ");
        early("news 0 1 2;");
        early("bag 1;news 0 1 2;man glad 3;");
        for (String kind : KINDS) {
            fault(kind.substring(0, kind.length() - 1), 0);
            fault(kind + "s", 0);
            fault(" " + kind.substring(1), 1);
            due("kind " + kind, good(kind, 1).of(6, 0), java.util.Arrays.asList(KINDS).indexOf(kind));
        }
    }

    /** Each of the 256 bytes, alone, behind a WORD and behind a NUMBER. */
    private static void allBytes() {
        promise(30);
        for (int b = 0; b < 256; b++) {
            String sign = "" + (char) b;
            boolean isLetter = "abcdefghijklmnopqrstuvwxyz".contains(sign);
            boolean isDigit = "0123456789".contains(sign);
            if (b == ' ') {
                early(sign);
                good("man" + sign, 1);
                good("man glad 1" + sign, 1);
                good(sign + "man", 1);
                continue;
            }
            fault(sign, 0);
            if (b == ';') {
                early("man" + sign);
                early("man glad 1" + sign);
            } else {
                fault("man" + sign, isLetter ? 0 : 3);
                if (isDigit) {
                    due("a digit more", good("man glad 1" + sign, 1).of(6, 1), 10 + b - '0');
                } else {
                    fault("man glad 1" + sign, 10);
                }
            }
        }
    }

    private static void numbers() {
        promise(30);
        due("the least glad", good("man glad 0", 1).of(6, 1), 0);
        due("the greatest glad", good("man glad 99", 1).of(6, 1), 99);
        due("the least sorry", good("man sorry 0", 1).of(6, 2), 0);
        due("the greatest sorry", good("man sorry 99", 1).of(6, 2), 99);
        due("the least end", good("man on 0", 1).of(6, 3), 0);
        due("the greatest end", good("man on 1", 1).of(6, 3), 1);
        due("off, if nothing is told", good("man glad 1 sorry 1", 1).of(6, 3), OFF);
        due("the least bag", good("bag 0", 1).now(1), 0);
        due("the greatest bag", good("bag 20", 1).now(1), 20);
        String[] tooGreat = {"100", "999", "1000", "9999", "0100", "256", "4294967296", "4294967297",
            "18446744073709551616", "99999999999999999999999999999999"};
        for (String n : tooGreat) {
            fault("man glad " + n, 9);
            fault("man sorry " + n + ";bag 1", 10);
            fault("man on " + n, 7);
            fault("bag 1;bag " + n, 10);
            fault("news " + n + " 0 0", 5);
            fault("news 0 " + n + " 0", 7);
            fault("news 0 0 " + n, 9);
        }
        fault("man on 2", 7);
        fault("bag 21", 4);
        fault("news 6 0 0", 5);
        fault("man glad -1", 9);
        due("zeros before it", good("man glad 0000000000000000000000099", 1).of(6, 1), 99);
        due("zeros alone", good("bag 000000000000", 1).now(1), 0);
    }

    /** Each WORD that the text has, with each of its letters another. */
    private static void words() {
        promise(30);
        for (String kind : KINDS) {
            for (int i = 0; i < kind.length(); i++) {
                fault(spelt(kind, i), 0);
            }
        }
        String[] others = {"bag", "news", "glad", "sorry", "on"};
        String[] behind = {"1", "0 1 2", "1", "1", "1"};
        for (int k = 0; k < others.length; k++) {
            String before = k < 2 ? "" : "man ";
            good(before + others[k] + " " + behind[k], 1);
            for (int i = 0; i < others[k].length(); i++) {
                fault(before + spelt(others[k], i) + " " + behind[k], before.length());
            }
            fault(before + others[k] + others[k] + behind[k], before.length());
        }
        SeeSawHearts x = empty();
        due("the first of all", parked(x, "widow glad 7 sorry 8 on 1"), 1);
        int[] want = {WIDOW, 7, 8, 1};
        for (int what = 0; what <= 3; what++) {
            due("what " + what + " of the first", x.of(0, what), want[what]);
        }
    }

    private static String spelt(String word, int i) {
        return word.substring(0, i) + "z" + word.substring(i + 1);
    }

    private static void news() {
        promise(30);
        SeeSawHearts x = good("news 0 0 0", 1);
        due("nothing new", x.of(0, 1), 41);
        x = good("news 5 99 99", 1);
        due("glad 99 at most", x.of(5, 1), 99);
        due("sorry 99 at most", x.of(5, 2), 99);
        x = good("news 5 93 94;news 0 1 2", 2);
        due("just 99", x.of(5, 1), 99);
        due("just 99", x.of(5, 2), 99);
        due("another one", x.of(0, 1), 42);
        due("another one", x.of(0, 2), 8);
        x = good("man;news 6 1 2;man;news 7 3 4", 4);
        due("one there by then", x.of(6, 2), 2);
        due("the last of eight", x.of(7, 2), 4);
        fault("news 6 1 2;man", 5);
        fault("man;news 7 1 2;man", 9);
        fault(Edges::empty, "news 0 0 0", 5);
        fault(EdgesOfText::fullWiped, "news 8 0 0", 5);
        due("the last of eight", parked(fullWiped(), "news 7 0 0"), 1);
    }

    private static void ninth() {
        promise(30);
        for (String kind : KINDS) {
            fault(EdgesOfText::fullWiped, kind, 0);
            fault(EdgesOfText::fullWiped, "bag 3; " + kind + " glad 100", 7);
            fault("man;man;" + kind + "!", 8);
        }
        due("seven and eight", good("man;man", 2).count(0), 8);
        due("eight", parked(empty(), "man;man;man;man;man;man;man;man"), 8);
        fault(Edges::empty, "man;man;man;man;man;man;man;man;man", 32);
        fault(EdgesOfText::fullWiped, "bag 21", 4);
        due("the bag of eight", parked(fullWiped(), "bag 20;bag 0"), 2);
    }

    private static void order() {
        promise(30);
        fault("man sorry 1 glad 1", 12);
        fault("man on 1 glad 1", 9);
        fault("man on 1 sorry 1", 9);
        fault("man glad 1 glad 1", 11);
        fault("man sorry 1 sorry 1", 12);
        fault("man on 1 on 1", 9);
        fault("man glad glad", 9);
        fault("man glad;", 8);
        fault("man glad 1 1", 11);
        fault("man man", 4);
        fault("man bag 1", 4);
        fault("bag bag", 4);
        fault("bag 1 2", 6);
        fault("bag glad 1", 4);
        fault("news 0 1 2 3", 11);
        fault("news 0 1;", 8);
        fault("news man", 5);
        fault(";", 0);
        fault("man;;man", 4);
        fault("man ; ;man", 6);
        fault("glad 1", 0);
        fault("on 1", 0);
        fault("1", 0);
        fault("manglad 1", 0);
        fault("man gladsorry 1", 4);
        fault("bag 5;news 0 9 9;man;hat", 21);
        fault("MAN", 0);
        good("man glad1sorry2on1;bag3", 2);
        good("  man   glad  1  ;  bag  3  ", 2);
    }

    private static void length() {
        promise(30);
        SeeSawHearts x = good("bag0;".repeat(23) + "bag12", 24);
        due("all 120 bytes", x.now(1), 12);
        x = good("bag 13" + " ".repeat(114), 1);
        due("blanks to the end", x.now(1), 13);
        x = good(" ".repeat(114) + "bag 14", 1);
        due("blanks from the start", x.now(1), 14);
        fault("bag 1;".repeat(19) + "bag 1;", 120);
        fault("bag 1;".repeat(19) + "bag 1!", 119);
        fault("z".repeat(120), 0);
        fault("man glad " + "9".repeat(111), 9);
        due("as a full tape stands", full().park(), 14);
    }

    public static void main(String[] args) {
        feed();
        wipe();
        tooEarly();
        allBytes();
        numbers();
        words();
        news();
        ninth();
        order();
        length();
        end();
    }
}
