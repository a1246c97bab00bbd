/** A see-saw that weighs gladness against sorrow; ../shared/DOC.md tells its promises. */
public final class SeeSawHearts {
    private static final int BEYOND = -1000000001;
    private static final int FULL = -1000000002;
    private static final int OTHER_KIND = -1000000003;
    private static final int NONE = -1000000004;
    private static final int STATE = -1000000005;
    private static final int MISSING = -1000000006;
    private static final int SIZE = -1000000007;
    private static final int FINDINGS = 7;

    private static final int MAN = 0;
    private static final int GIRL = 1;
    private static final int CHILD = 2;
    private static final int MAYOR = 3;
    private static final int ORPHAN = 4;
    private static final int WIDOW = 5;
    private static final int KINDS = 6;
    private static final int[] KIND_ABOVE = {-1, 0, 0, 0, 2, 1};

    private static final int MOST_PEOPLE = 8;
    private static final int MOST_FEELING = 99;
    private static final int MOST_BAG = 20;
    private static final int FIRST_BAG = 10;
    private static final int MOST_MINUTE = 99999;
    private static final int MOST_AHEAD = 100;
    private static final int MOST_PLANNED = 60;
    private static final int WIDOW_EASED = 40;
    private static final int GRIEVANCE = 2;
    private static final int ENDS = 2;
    private static final int OFF = -1;
    private static final int NOT_HANGING = 5000;
    private static final int HEART_BASE = 1000;
    private static final int TILT_BASE = 10000;
    private static final int MOST_BYTES = 120;
    private static final int SHEETS = 4;
    private static final int MOST_NUMBERS = 40;

    private final Beam beam = new Beam();
    private final Beam kept = new Beam();
    // Two to try things on, made once so that no call has to make any.
    private final Beam trial = new Beam();
    private final Beam waiting = new Beam();
    private final int[] hearts = new int[MOST_PEOPLE];
    private final int[] rests = new int[MOST_NUMBERS];
    private final Text text = new Text();
    private final Sheet[] sheets = new Sheet[SHEETS];
    private final int[] found = new int[FINDINGS];
    private boolean isKept;

    public SeeSawHearts() {
        for (int s = 0; s < SHEETS; s++) {
            sheets[s] = new Sheet();
        }
    }

    // ---- people

    public int person(int kind) {
        if (!isKind(kind)) {
            return finding(BEYOND);
        }
        if (beam.people >= MOST_PEOPLE) {
            return finding(FULL);
        }
        return beam.join(kind);
    }

    public int of(int person, int what) {
        if (!isPerson(person)) {
            return finding(BEYOND);
        }
        switch (what) {
            case 0:
                return beam.kinds[person];
            case 1:
                return beam.glads[person];
            case 2:
                return beam.sorrows[person];
            case 3:
                return beam.places[person];
            case 4:
                return mixesAs(beam.kinds[person], beam.glads[person]);
            default:
                return finding(BEYOND);
        }
    }

    public int heart(int person) {
        if (!isPerson(person)) {
            return finding(BEYOND);
        }
        return HEART_BASE + beam.heartOf(person);
    }

    public int set(int person, int what, int v) {
        if (!isPerson(person)) {
            return finding(BEYOND);
        }
        if (what == 1 && isFeeling(v)) {
            return put(beam.glads, person, v);
        }
        if (what == 2 && isFeeling(v)) {
            return put(beam.sorrows, person, v);
        }
        if (what == 3 && (v == OFF || isEnd(v))) {
            return put(beam.places, person, v);
        }
        return finding(BEYOND);
    }

    public int turn(int person, int kind) {
        if (!isPerson(person) || !isKind(kind)) {
            return finding(BEYOND);
        }
        return put(beam.kinds, person, kind);
    }

    public int as(int person, int kind) {
        if (!isPerson(person) || !isKind(kind)) {
            return finding(BEYOND);
        }
        if (!isUnder(beam.kinds[person], kind)) {
            return finding(OTHER_KIND);
        }
        return beam.glads[person];
    }

    public int news(int person, int g, int s) {
        if (!isPerson(person) || !isFeeling(g) || !isFeeling(s)) {
            return finding(BEYOND);
        }
        beam.hear(person, g, s);
        return HEART_BASE + beam.heartOf(person);
    }

    // ---- the beam

    public int load(int end) {
        if (!isEnd(end)) {
            return finding(BEYOND);
        }
        return HEART_BASE + beam.loadOf(end);
    }

    public int at(int end) {
        if (!isEnd(end)) {
            return finding(BEYOND);
        }
        return beam.sitters(end);
    }

    public int hang(int end) {
        if (!isEnd(end)) {
            return finding(BEYOND);
        }
        if (beam.left <= 0) {
            return finding(NONE);
        }
        beam.left--;
        beam.hung[end]++;
        return beam.hung[end];
    }

    public int take(int end) {
        if (!isEnd(end)) {
            return finding(BEYOND);
        }
        if (beam.hung[end] <= 0) {
            return finding(NONE);
        }
        if (beam.left >= MOST_BAG) {
            return finding(FULL);
        }
        beam.left++;
        beam.hung[end]--;
        return beam.hung[end];
    }

    public int bag(int v) {
        if (!isWithin(v, 0, MOST_BAG)) {
            return finding(BEYOND);
        }
        int was = beam.left;
        beam.left = v;
        return was;
    }

    public int minutes(int n) {
        if (!isWithin(n, 1, MOST_AHEAD)) {
            return finding(BEYOND);
        }
        if (beam.minute + n > MOST_MINUTE) {
            return finding(STATE);
        }
        beam.goOn(n);
        return TILT_BASE + beam.tiltNow();
    }

    public int now(int what) {
        switch (what) {
            case 0:
                return beam.minute;
            case 1:
                return beam.left;
            case 2:
                return TILT_BASE + beam.tiltNow();
            case 3:
                return beam.isLevel() ? 1 : 0;
            case 4:
                return beam.sitters(0) | beam.sitters(1);
            case 5:
                return sum(beam.glads, beam.people);
            case 6:
                return sum(beam.sorrows, beam.people);
            default:
                return finding(BEYOND);
        }
    }

    public int on(int person, int n, int what) {
        if (!isPerson(person) || !isWithin(n, 0, MOST_AHEAD) || !isWithin(what, 0, 1)) {
            return finding(BEYOND);
        }
        trial.becomes(beam);
        trial.goOn(n);
        return what == 0 ? trial.glads[person] : trial.sorrows[person];
    }

    public int tilt(int n) {
        if (!isWithin(n, 0, MOST_AHEAD)) {
            return finding(BEYOND);
        }
        trial.becomes(beam);
        trial.goOn(n);
        return TILT_BASE + trial.tiltNow();
    }

    public int level() {
        trial.becomes(beam);
        for (int n = 0; n <= MOST_AHEAD; n++) {
            if (trial.isLevel()) {
                return n;
            }
            trial.goOn(1);
        }
        return finding(NONE);
    }

    public int mixed(int person) {
        if (!isPerson(person)) {
            return finding(BEYOND);
        }
        trial.becomes(beam);
        for (int n = 0; n <= MOST_AHEAD; n++) {
            if (trial.glads[person] == trial.sorrows[person]) {
                return n;
            }
            trial.goOn(1);
        }
        return finding(NONE);
    }

    // ---- what is best

    public int match(int person) {
        if (!isPerson(person)) {
            return finding(BEYOND);
        }
        int own = beam.heartOf(person);
        int set = 0;
        for (int p = 0; p < beam.people; p++) {
            if (p != person && own + beam.heartOf(p) == 0) {
                set |= 1 << p;
            }
        }
        return set;
    }

    public int seats() {
        if (beam.people < 2) {
            return finding(SIZE);
        }
        weighAll();
        int grief = GRIEVANCE * (beam.hung[0] + beam.hung[1]);
        int best = 0;
        int bestTilt = 0;
        for (int set = 3; set < 1 << beam.people; set++) {
            if (Integer.bitCount(set) >= 2) {
                int tilt = Math.abs(heartsOf(set) - grief);
                if (best == 0 || tilt < bestTilt) {
                    best = set;
                    bestTilt = tilt;
                }
            }
        }
        return best;
    }

    public int weights() {
        if (!beam.hangs()) {
            return finding(NONE);
        }
        int tilt = beam.tiltNow();
        for (int k = 0; k <= beam.left; k++) {
            if (tilt == GRIEVANCE * k) {
                return k;
            }
        }
        return finding(NONE);
    }

    public int sorrow(int person) {
        if (!isPerson(person)) {
            return finding(BEYOND);
        }
        for (int s = 0; s <= MOST_FEELING; s++) {
            trial.becomes(beam);
            trial.hear(person, 0, s);
            if (trial.isLevel()) {
                return s;
            }
        }
        return finding(NONE);
    }

    public int kind(int person) {
        if (!isPerson(person)) {
            return finding(BEYOND);
        }
        trial.becomes(beam);
        int best = -1;
        int bestTilt = 0;
        for (int k = 0; k < KINDS; k++) {
            trial.kinds[person] = k;
            int tilt = Math.abs(trial.tiltNow());
            if (best < 0 || tilt < bestTilt) {
                best = k;
                bestTilt = tilt;
            }
        }
        return best;
    }

    public int delay(int person, int end, int n) {
        if (!isPerson(person) || !isEnd(end) || !isWithin(n, 1, MOST_PLANNED)) {
            return finding(BEYOND);
        }
        if (beam.places[person] != OFF) {
            return finding(STATE);
        }
        waiting.becomes(beam);
        for (int d = 0; d <= n; d++) {
            trial.becomes(waiting);
            trial.places[person] = end;
            trial.goOn(n - d);
            if (trial.isLevel()) {
                return d;
            }
            waiting.goOn(1);
        }
        return finding(NONE);
    }

    public int fewest(int end) {
        if (!isEnd(end)) {
            return finding(BEYOND);
        }
        if (!beam.hangs()) {
            return finding(NONE);
        }
        weighAll();
        int there = beam.sitters(end);
        int tilt = beam.tiltNow();
        int best = -1;
        // One must stay, or it would not hang: so the set of all of them is not tried.
        for (int set = 0; set < there; set++) {
            boolean isPart = (set & there) == set;
            boolean isFewer = best < 0 || Integer.bitCount(set) < Integer.bitCount(best);
            if (isPart && isFewer && tilt == heartsOf(set)) {
                best = set;
            }
        }
        return best < 0 ? finding(NONE) : best;
    }

    public int helps(int person, int end, int n) {
        if (!isPerson(person) || !isEnd(end) || !isWithin(n, 0, MOST_PLANNED)) {
            return finding(BEYOND);
        }
        if (beam.places[person] != OFF) {
            return finding(STATE);
        }
        trial.becomes(beam);
        trial.goOn(n);
        int without = Math.abs(trial.tiltNow());
        trial.becomes(beam);
        trial.places[person] = end;
        trial.goOn(n);
        return Math.abs(trial.tiltNow()) < without ? 1 : 0;
    }

    // ---- the text

    public int feed(int bytes, int n) {
        if (!isWithin(n, 1, 4)) {
            return finding(BEYOND);
        }
        if (text.length + n > MOST_BYTES) {
            return finding(FULL);
        }
        for (int k = n - 1; k >= 0; k--) {
            text.append((bytes >> (8 * k)) & 255);
        }
        return text.length;
    }

    public int wipe() {
        int had = text.length;
        text.length = 0;
        return had;
    }

    public int park() {
        trial.becomes(beam);
        int items = text.tellAll(trial);
        if (items >= 0) {
            beam.becomes(trial);
        }
        text.length = 0;
        return items;
    }

    // ---- sheets

    public int sheet(int s, int bits, int n) {
        if (!isSheet(s) || (bits != 0 && bits != 8 && bits != 16 && bits != 64)) {
            return finding(BEYOND);
        }
        if (n < 0) {
            return finding(SIZE);
        }
        if (n > MOST_NUMBERS) {
            return finding(BEYOND);
        }
        return sheets[s].lay(bits, bits == 0 ? 0 : n);
    }

    public long write(int s, int i, long v) {
        int missed = lookFor(s);
        if (missed != 0) {
            return finding(missed);
        }
        Sheet sheet = sheets[s];
        if (!isWithin(i, 0, sheet.size - 1)) {
            return finding(BEYOND);
        }
        long was = sheet.numbers[i];
        sheet.enter(i, v);
        return was;
    }

    public int copy(int s, int from, int t, int to, int n) {
        if (!isSheet(s) || !isSheet(t)) {
            return finding(BEYOND);
        }
        Sheet source = sheets[s];
        Sheet target = sheets[t];
        if (source.bits == 0 || target.bits == 0) {
            return finding(MISSING);
        }
        if (source.bits != target.bits) {
            return finding(OTHER_KIND);
        }
        if (!source.hasRun(from, n) || !target.hasRun(to, n)) {
            return finding(BEYOND);
        }
        System.arraycopy(source.numbers, from, target.numbers, to, n);
        return n;
    }

    public int lays(int s) {
        int missed = lookFor(s);
        if (missed != 0) {
            return finding(missed);
        }
        Sheet sheet = sheets[s];
        int came = 0;
        for (int p = 0; p < sheet.size && p < beam.people; p++) {
            long number = sheet.numbers[p];
            if (number >= 0 && number <= MOST_FEELING) {
                beam.glads[p] = (int) number;
                came++;
            }
        }
        return came;
    }

    public int book(int s) {
        int missed = lookFor(s);
        if (missed != 0) {
            return finding(missed);
        }
        Sheet sheet = sheets[s];
        trial.becomes(beam);
        for (int i = 0; i < sheet.size; i++) {
            sheet.enter(i, trial.tiltNow());
            trial.goOn(1);
        }
        return sheet.size;
    }

    public int read(int s, int person) {
        int missed = lookFor(s);
        if (missed != 0) {
            return finding(missed);
        }
        if (!isPerson(person)) {
            return finding(BEYOND);
        }
        boolean matters = beam.places[person] != OFF && beam.hangs();
        tellRests(person, matters, sheets[s].size);
        if (!matters) {
            return isWritten(sheets[s]) ? KINDS * (MOST_FEELING + 1) : 0;
        }
        int pairs = 0;
        for (int k = 0; k < KINDS; k++) {
            for (int sorry = 0; sorry <= MOST_FEELING; sorry++) {
                if (fits(sheets[s], k, beam.glads[person], sorry)) {
                    pairs++;
                }
            }
        }
        return pairs;
    }

    // ---- images

    public int image() {
        kept.becomes(beam);
        isKept = true;
        return 1;
    }

    public int undo() {
        if (!isKept) {
            return finding(NONE);
        }
        beam.becomes(kept);
        return beam.people;
    }

    public int tear() {
        int had = isKept ? 1 : 0;
        isKept = false;
        return had;
    }

    public int count(int what) {
        switch (what) {
            case 0:
                return beam.people;
            case 1:
                return text.length;
            case 2:
                return Integer.bitCount(beam.sitters(0)) + Integer.bitCount(beam.sitters(1));
            case 3:
                return beam.hung[0] + beam.hung[1];
            default:
                return finding(BEYOND);
        }
    }

    public int status(int which) {
        if (which == -1) {
            return sum(found, FINDINGS);
        }
        if (!isWithin(which, 0, FINDINGS - 1)) {
            return finding(BEYOND);
        }
        return found[which];
    }

    // ---- what the calls share

    private int finding(int code) {
        int which = BEYOND - code;
        if (isWithin(which, 0, FINDINGS - 1)) {
            found[which]++;
        }
        return code;
    }

    private boolean isPerson(int person) {
        return isWithin(person, 0, beam.people - 1);
    }

    private static boolean isKind(int kind) {
        return isWithin(kind, 0, KINDS - 1);
    }

    private static boolean isFeeling(int v) {
        return isWithin(v, 0, MOST_FEELING);
    }

    private static boolean isEnd(int end) {
        return isWithin(end, 0, ENDS - 1);
    }

    private static boolean isSheet(int s) {
        return isWithin(s, 0, SHEETS - 1);
    }

    private static boolean isWithin(int v, int least, int most) {
        return v >= least && v <= most;
    }

    /** The finding to tell of a sheet that should be there, or 0 if it is. */
    private int lookFor(int s) {
        if (!isSheet(s)) {
            return BEYOND;
        }
        return sheets[s].bits == 0 ? MISSING : 0;
    }

    private static int put(int[] row, int i, int v) {
        int was = row[i];
        row[i] = v;
        return was;
    }

    private static int sum(int[] row, int n) {
        int all = 0;
        for (int i = 0; i < n && i < row.length; i++) {
            all += row[i];
        }
        return all;
    }

    private static boolean isUnder(int kind, int above) {
        int k = kind;
        for (int steps = 0; steps < KINDS && isKind(k); steps++) {
            if (k == above) {
                return true;
            }
            k = KIND_ABOVE[k];
        }
        return false;
    }

    private void weighAll() {
        for (int p = 0; p < beam.people; p++) {
            hearts[p] = beam.heartOf(p);
        }
    }

    /** HEARTS of a set together, as weighAll() found them. */
    private int heartsOf(int set) {
        int all = 0;
        for (int p = 0; p < beam.people; p++) {
            if ((set >> p & 1) != 0) {
                all += hearts[p];
            }
        }
        return all;
    }

    /** TILT ON 0, 1, .. MINUTES, without what one adds to it: that alone differs by its KIND and SORRY. */
    private void tellRests(int person, boolean matters, int n) {
        trial.becomes(beam);
        for (int i = 0; i < n && i < MOST_NUMBERS; i++) {
            rests[i] = trial.tiltNow() - (matters ? trial.heartOf(person) : 0);
            trial.goOn(1);
        }
    }

    private boolean isWritten(Sheet sheet) {
        for (int i = 0; i < sheet.size; i++) {
            if (sheet.numbers[i] != rests[i]) {
                return false;
            }
        }
        return true;
    }

    private boolean fits(Sheet sheet, int kind, int glad, int sorry) {
        int g = glad;
        int s = sorry;
        for (int i = 0; i < sheet.size; i++) {
            if (sheet.numbers[i] != rests[i] + heartAs(kind, g, s, beam.minute + i)) {
                return false;
            }
            int gone = mixing(kind, g, s);
            g -= gone;
            s += gone;
        }
        return true;
    }

    private static int heartAs(int kind, int glad, int sorry, int minute) {
        int asMan = glad - sorry;
        switch (kind) {
            case GIRL:
                return asMan - sorry / 2;
            case CHILD:
                return 2 * asMan;
            case MAYOR:
                return asMan / 2;
            case ORPHAN:
                return 2 * asMan - 3;
            case WIDOW:
                return minute >= WIDOW_EASED ? 0 : asMan - sorry / 2;
            default:
                return asMan;
        }
    }

    private static int mixesAs(int kind, int glad) {
        switch (kind) {
            case CHILD:
                return 3;
            case MAYOR:
                return 0;
            case ORPHAN:
                return 2;
            case WIDOW:
                return glad == 0 ? 0 : 1;
            default:
                return 1;
        }
    }

    /** How much of GLAD becomes SORRY in a MINUTE; below 0 it is SORRY that becomes GLAD. */
    private static int mixing(int kind, int glad, int sorry) {
        int gone = Math.min(mixesAs(kind, glad), Math.abs(glad - sorry) / 2);
        return glad > sorry ? gone : -gone;
    }

    /** All that section 1 of the document tells, but for THE TAPE. */
    private static final class Beam {
        final int[] kinds = new int[MOST_PEOPLE];
        final int[] glads = new int[MOST_PEOPLE];
        final int[] sorrows = new int[MOST_PEOPLE];
        final int[] places = new int[MOST_PEOPLE];
        final int[] hung = new int[ENDS];
        int people;
        int minute;
        int left = FIRST_BAG;

        void becomes(Beam other) {
            people = other.people;
            minute = other.minute;
            left = other.left;
            hung[0] = other.hung[0];
            hung[1] = other.hung[1];
            for (int p = 0; p < people; p++) {
                kinds[p] = other.kinds[p];
                glads[p] = other.glads[p];
                sorrows[p] = other.sorrows[p];
                places[p] = other.places[p];
            }
        }

        /** Answers the number of the new one, or -1 if there is no room. */
        int join(int kind) {
            if (people >= MOST_PEOPLE) {
                return -1;
            }
            int p = people;
            kinds[p] = kind;
            glads[p] = 0;
            sorrows[p] = 0;
            places[p] = OFF;
            people++;
            return p;
        }

        void hear(int p, int g, int s) {
            glads[p] = Math.min(MOST_FEELING, glads[p] + g);
            sorrows[p] = Math.min(MOST_FEELING, sorrows[p] + s);
        }

        int heartOf(int p) {
            return heartAs(kinds[p], glads[p], sorrows[p], minute);
        }

        int sitters(int end) {
            int set = 0;
            for (int p = 0; p < people; p++) {
                if (places[p] == end) {
                    set |= 1 << p;
                }
            }
            return set;
        }

        int loadOf(int end) {
            int all = -GRIEVANCE * hung[end];
            for (int p = 0; p < people; p++) {
                if (places[p] == end) {
                    all += heartOf(p);
                }
            }
            return all;
        }

        boolean hangs() {
            return sitters(0) != 0 && sitters(1) != 0;
        }

        int tiltNow() {
            return hangs() ? loadOf(0) + loadOf(1) : NOT_HANGING;
        }

        boolean isLevel() {
            return tiltNow() == 0;
        }

        void goOn(int n) {
            boolean mixes = hangs();
            for (int i = 0; i < n; i++) {
                if (mixes) {
                    mixAll();
                }
                minute++;
            }
        }

        private void mixAll() {
            for (int p = 0; p < people; p++) {
                if (places[p] != OFF) {
                    int gone = mixing(kinds[p], glads[p], sorrows[p]);
                    glads[p] -= gone;
                    sorrows[p] += gone;
                }
            }
        }
    }

    /** A row of numbers; bits 0: it is MISSING. */
    private static final class Sheet {
        final long[] numbers = new long[MOST_NUMBERS];
        int bits;
        int size;

        int lay(int newBits, int newSize) {
            bits = newBits;
            size = newSize;
            for (int i = 0; i < size && i < MOST_NUMBERS; i++) {
                numbers[i] = 0;
            }
            return size;
        }

        void enter(int i, long v) {
            if (bits == 8) {
                numbers[i] = (byte) v;
            } else if (bits == 16) {
                numbers[i] = (short) v;
            } else {
                numbers[i] = v;
            }
        }

        boolean hasRun(int from, int n) {
            // By a difference, since a sum of the two could wrap around.
            return from >= 0 && n >= 0 && from <= size && n <= size - from;
        }
    }

    /** THE TAPE, and the TOKEN of it that is looked at. */
    private static final class Text {
        private static final int AT_END = 0;
        private static final int WORD = 1;
        private static final int NUMBER = 2;
        private static final int SIGN = 3;
        private static final int NO_TOKEN = 4;
        private static final int ABOVE_ALL_NUMBERS = 1000;

        final int[] bytes = new int[MOST_BYTES];
        int length;
        private int start;
        private int stop;
        private int token;
        private int value;

        void append(int oneByte) {
            if (length < MOST_BYTES) {
                bytes[length] = oneByte;
                length++;
            }
        }

        /** Tells all ITEMS to a beam: how many, or -1 less the place of the FAULT. */
        int tellAll(Beam beam) {
            stop = 0;
            advance();
            // An ITEM has a byte at least, so there can't be more of them than bytes.
            for (int items = 1; items <= MOST_BYTES; items++) {
                if (!tellItem(beam)) {
                    return -1 - start;
                }
                if (token == AT_END) {
                    return items;
                }
                if (token != SIGN) {
                    return -1 - start;
                }
                advance();
            }
            return -1 - start;
        }

        /** False with a FAULT: the TOKEN that is looked at is then the one that can't stand there. */
        private boolean tellItem(Beam beam) {
            if (isWord("bag")) {
                advance();
                if (!isNumber(MOST_BAG)) {
                    return false;
                }
                beam.left = value;
                advance();
                return true;
            }
            if (isWord("news")) {
                advance();
                return tellNews(beam);
            }
            int kind = kindNamed();
            if (kind < 0 || beam.people >= MOST_PEOPLE) {
                return false;
            }
            advance();
            int p = beam.join(kind);
            return tellPart("glad", MOST_FEELING, beam.glads, p)
                    && tellPart("sorry", MOST_FEELING, beam.sorrows, p)
                    && tellPart("on", ENDS - 1, beam.places, p);
        }

        private boolean tellNews(Beam beam) {
            if (!isNumber(beam.people - 1)) {
                return false;
            }
            int p = value;
            advance();
            if (!isNumber(MOST_FEELING)) {
                return false;
            }
            int g = value;
            advance();
            if (!isNumber(MOST_FEELING)) {
                return false;
            }
            beam.hear(p, g, value);
            advance();
            return true;
        }

        /** A part of an ITEM that may be left out. */
        private boolean tellPart(String name, int most, int[] row, int p) {
            if (!isWord(name)) {
                return true;
            }
            advance();
            if (!isNumber(most) || p < 0 || p >= row.length) {
                return false;
            }
            row[p] = value;
            advance();
            return true;
        }

        private int kindNamed() {
            for (int k = 0; k < KINDS; k++) {
                if (isWord(nameOf(k))) {
                    return k;
                }
            }
            return -1;
        }

        private static String nameOf(int k) {
            switch (k) {
                case GIRL:
                    return "girl";
                case CHILD:
                    return "child";
                case MAYOR:
                    return "mayor";
                case ORPHAN:
                    return "orphan";
                case WIDOW:
                    return "widow";
                default:
                    return "man";
            }
        }

        private boolean isNumber(int most) {
            return token == NUMBER && value <= most;
        }

        private boolean isWord(String name) {
            if (token != WORD || stop - start != name.length()) {
                return false;
            }
            for (int i = 0; i < name.length(); i++) {
                if (bytes[start + i] != name.charAt(i)) {
                    return false;
                }
            }
            return true;
        }

        /** Goes on to the next TOKEN. */
        private void advance() {
            start = stop;
            while (start < length && bytes[start] == ' ') {
                start++;
            }
            stop = start;
            if (start >= length) {
                token = AT_END;
            } else if (isLetter(bytes[start])) {
                token = WORD;
                takeWord();
            } else if (isDigit(bytes[start])) {
                token = NUMBER;
                takeNumber();
            } else {
                token = bytes[start] == ';' ? SIGN : NO_TOKEN;
                stop++;
            }
        }

        private void takeWord() {
            while (stop < length && isLetter(bytes[stop])) {
                stop++;
            }
        }

        private void takeNumber() {
            value = 0;
            while (stop < length && isDigit(bytes[stop])) {
                // Held at a bound, as a long row of digits would wrap around.
                value = Math.min(ABOVE_ALL_NUMBERS, 10 * value + bytes[stop] - '0');
                stop++;
            }
        }

        private static boolean isLetter(int oneByte) {
            return oneByte >= 'a' && oneByte <= 'z';
        }

        private static boolean isDigit(int oneByte) {
            return oneByte >= '0' && oneByte <= '9';
        }
    }
}
