import java.util.ArrayList;
import java.util.List;

/** What the tests of boundaries share: scenes to start from, and ways to ask what a call did and did not do. */
abstract class Edges {
    static final long BEYOND = -1000000001L;
    static final long FULL = -1000000002L;
    static final long KIND = -1000000003L;
    static final long NONE = -1000000004L;
    static final long STATE = -1000000005L;
    static final long MISSING = -1000000006L;
    static final long SIZE = -1000000007L;

    static final int MAN = 0;
    static final int GIRL = 1;
    static final int CHILD = 2;
    static final int MAYOR = 3;
    static final int ORPHAN = 4;
    static final int WIDOW = 5;
    static final int OFF = -1;

    static final int LOW = Integer.MIN_VALUE;
    static final int HIGH = Integer.MAX_VALUE;

    /** Has bits of its own in each of the lowest 8, 16 and 64. */
    private static final long MARK = 0x0123456789ABCDEFL;

    private static int promise = 0;
    private static int wrong = 0;
    private static int tests = 0;

    interface Scene {
        SeeSawHearts made();
    }

    interface Call {
        long on(SeeSawHearts x);
    }

    interface CallWith {
        long on(SeeSawHearts x, int v);
    }

    static void promise(int number) {
        promise = number;
    }

    private static void say(String boundary, String what) {
        wrong++;
        System.out.println("promise " + promise + ": " + boundary + ": " + what);
    }

    static void due(String boundary, long got, long want) {
        tests++;
        if (got != want) {
            say(boundary, "answered " + got + ", due is " + want);
        }
    }

    /** The call answers a finding, which is counted, and changes nothing but that. */
    static void refused(String boundary, Scene scene, Call call, long finding) {
        left(boundary, scene, call, finding, (int) (BEYOND - finding));
    }

    /** The same, for each of the values that may not be. */
    static void beyond(String boundary, Scene scene, CallWith call, int... values) {
        for (int v : values) {
            refused(boundary + " " + v, scene, x -> call.on(x, v), BEYOND);
        }
    }

    /** The call answers, and changes nothing at all. */
    static void told(String boundary, Scene scene, Call call, long want) {
        left(boundary, scene, call, want, -1);
    }

    /** Beside an object that is not called all must be as it was, but for the count of one finding (-1: of none). */
    private static void left(String boundary, Scene scene, Call call, long want, int finding) {
        SeeSawHearts called = scene.made();
        SeeSawHearts spared = scene.made();
        due(boundary, call.on(called), want);
        for (int which = -1; which <= 6; which++) {
            boolean isCounted = finding >= 0 && (which == -1 || which == finding);
            long more = called.status(which) - (long) spared.status(which);
            if (more != (isCounted ? 1 : 0)) {
                say(boundary, "status(" + which + ") is " + more + " more");
            }
        }
        List<String> all = allOf(called);
        List<String> due = allOf(spared);
        for (int i = 0; i < Math.max(all.size(), due.size()); i++) {
            String is = i < all.size() ? all.get(i) : "nothing more";
            String was = i < due.size() ? due.get(i) : "nothing more";
            if (!is.equals(was)) {
                say(boundary, "changed " + was + " to " + is);
                return;
            }
        }
    }

    /** All that can be learnt of an object but its status(); it is of no more use then. */
    private static List<String> allOf(SeeSawHearts x) {
        List<String> all = new ArrayList<>();
        scene(x, "now", all);
        sheets(x, all);
        all.add("the tape: " + x.park());
        scene(x, "by the tape", all);
        all.add("the image: " + x.undo());
        scene(x, "in the image", all);
        return all;
    }

    private static void scene(SeeSawHearts x, String when, List<String> all) {
        for (int what = 0; what <= 3; what++) {
            all.add(when + " count(" + what + ") " + x.count(what));
        }
        for (int what = 0; what <= 6; what++) {
            all.add(when + " now(" + what + ") " + x.now(what));
        }
        for (int end = 0; end <= 1; end++) {
            all.add(when + " at(" + end + ") " + x.at(end) + " load(" + end + ") " + x.load(end));
        }
        for (int p = 0; p < x.count(0); p++) {
            for (int what = 0; what <= 4; what++) {
                all.add(when + " of(" + p + ", " + what + ") " + x.of(p, what));
            }
            all.add(when + " heart(" + p + ") " + x.heart(p));
        }
    }

    private static void sheets(SeeSawHearts x, List<String> all) {
        for (int s = 0; s < 4; s++) {
            for (int t = s + 1; t < 4; t++) {
                all.add("sheets " + s + " and " + t + " alike: " + x.copy(s, 0, t, 0, 0));
            }
        }
        for (int s = 0; s < 4; s++) {
            long was = 0;
            for (int i = 0; i <= 40 && was != BEYOND && was != MISSING; i++) {
                was = x.write(s, i, MARK);
                all.add("number " + i + " of sheet " + s + ": " + was);
            }
            all.add("cut by sheet " + s + ": " + x.write(s, 0, 0));
        }
    }

    /** One more, with its feelings, at an end. */
    static int one(SeeSawHearts x, int kind, int glad, int sorry, int end) {
        int p = x.person(kind);
        x.set(p, 1, glad);
        x.set(p, 2, sorry);
        x.set(p, 3, end);
        return p;
    }

    static void tape(SeeSawHearts x, String text) {
        int i = 0;
        while (i < text.length()) {
            int n = Math.min(4, text.length() - i);
            int bytes = 0;
            for (int k = 0; k < n; k++) {
                bytes = bytes << 8 | text.charAt(i + k);
            }
            x.feed(bytes, n);
            i += n;
        }
    }

    /** A MINUTE to be at, from 0 on. */
    static void until(SeeSawHearts x, int minute) {
        int n = minute - x.now(0);
        while (n > 0) {
            x.minutes(Math.min(100, n));
            n -= 100;
        }
    }

    /** Nobody, and nothing on the tape, on sheets or kept. */
    static SeeSawHearts empty() {
        return new SeeSawHearts();
    }

    /** Six people (2 and 4 are off), grievances, minutes, a text, sheets (3 is MISSING), an image of other things. */
    static SeeSawHearts busy() {
        SeeSawHearts x = new SeeSawHearts();
        one(x, MAYOR, 44, 3, 1);
        x.hang(1);
        x.image();
        x.turn(0, MAN);
        one(x, GIRL, 2, 9, 0);
        one(x, CHILD, 5, 8, OFF);
        one(x, MAYOR, 9, 0, 0);
        one(x, ORPHAN, 0, 7, OFF);
        one(x, WIDOW, 6, 5, 1);
        x.hang(0);
        x.hang(0);
        x.minutes(3);
        x.bag(5);
        tape(x, "bag 9;man glad 8 on 1;news 2 3 4");
        x.sheet(0, 8, 5);
        x.sheet(1, 16, 3);
        x.sheet(2, 64, 0);
        for (int i = 0; i < 5; i++) {
            x.write(0, i, 30 + 25 * i);
            x.write(1, i, 300 * i);
        }
        return x;
    }

    /** Eight people on the beam, all feelings, the bag, the tape and the sheets full; four grievances hang. */
    static SeeSawHearts full() {
        SeeSawHearts x = new SeeSawHearts();
        for (int p = 0; p < 8; p++) {
            one(x, p % 6, 99, 99, p % 2);
        }
        for (int k = 0; k < 4; k++) {
            x.hang(k % 2);
        }
        x.image();
        x.bag(20);
        tape(x, "bag 1;bag 2;bag 3;bag 4;bag 5;bag 6;bag 7;bag 8;news 0 1 1;news 1 1 1;news 2 1 1;"
            + "news 3 1 1;news 4 1 1;news 5 1 00000001");
        int[] bits = {8, 16, 64, 8};
        for (int s = 0; s < 4; s++) {
            x.sheet(s, bits[s], 40);
            x.write(s, 0, -1);
            x.write(s, 39, 100);
        }
        return x;
    }

    static void end() {
        System.out.println(wrong == 0 ? tests + " boundaries hold" : wrong + " things are not as due");
        if (wrong != 0) {
            System.exit(1);
        }
    }
}
