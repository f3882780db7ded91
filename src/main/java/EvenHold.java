import java.util.Arrays;

/**
 * A lighter with coal that has to be emptied evenly. How tons lie is one number, two bits a CELL
 * (CELL 0 lowest): 4096 ways in all, so that every search is a walk over one row of that length.
 */
public final class EvenHold {
    public static final int NONE = -1, UNKNOWN = -101, OUTSIDE = -102, STATE = -103, FULL = -104;

    /** What may stand at each place of a HOLD: k a KIND, a digit that one or a smaller one, else the sign itself. */
    private static final String FORM = "k33,k33,k33;99";
    private static final String KINDS = "bnfhd";
    private static final int BAY = 0, FAR = 2, HEAPED = 3, DEEP = 4;
    private static final int[] TAKING = {2, 1, 3, 2, 4};
    private static final int[] CARRYING = {2, 2, 2, 2, 3};

    private static final int BAYS = 3, CELLS = 6, CELL_ROOM = 3, NUMBERS = 42;
    /** Every number that is an ACT, rising, so that searches need not try the others. */
    private static final int[] ACTS = {
        0, 1, 2, 3, 4, 5, 7, 8, 12, 15, 18, 21, 22, 25, 26, 29, 32, 35, 39, 40
    };
    private static final int LYINGS = 4096, EMPTY = 0;
    private static final int PAGE_ROOM = 16, LAST_CODE = 126;
    private static final int STRING_ROOM = 4, MOST_BENT = 12;
    private static final int MOST_EASINGS = 12, MOST_DAYS = 90;

    private final int[] page = new int[PAGE_ROOM];
    private int letters = 0;
    private final Lighter lighter = new Lighter();
    private boolean held = false;
    private final Now now = new Now();
    private final Now kept = new Now();
    private boolean isKept = false;
    private int reads = 0;
    private int easings = 0;
    private final Outlook outlook = new Outlook();
    private final Easing easing = new Easing();
    private final Fit fit = new Fit();

    public EvenHold() {
    }

    // ---- the hold

    public int letter(int code) {
        if (code < 1 || code > LAST_CODE) {
            return OUTSIDE;
        }
        if (letters < 0 || letters >= page.length) {
            return FULL;
        }
        page[letters] = code;
        letters++;
        return letters;
    }

    public int blank() {
        int had = letters;
        letters = 0;
        return had;
    }

    public int fault() {
        for (int place = 0; place < letters && place < page.length; place++) {
            if (!isOfForm(place, page[place])) {
                return place;
            }
        }
        return letters;
    }

    public int hold() {
        if (letters != FORM.length() || fault() != FORM.length()) {
            return STATE;
        }
        now.clear();
        now.lying = readPage();
        letters = 0;
        held = true;
        isKept = false;
        reads++;
        return tonsOf(now.lying);
    }

    public int bay(int bay, int what) {
        if (!isBay(bay)) {
            return UNKNOWN;
        }
        switch (what) {
            case 0: return at(lighter.kind, bay);
            case 1: return tonsAt(now.lying, 2 * bay);
            case 2: return tonsAt(now.lying, 2 * bay + 1);
            case 3: return at(lighter.taking, bay);
            case 4: return at(lighter.carrying, bay);
            default: return OUTSIDE;
        }
    }

    public int as(int bay, int kind) {
        if (!isBay(bay)) {
            return UNKNOWN;
        }
        if (kind < 0 || kind >= KINDS.length()) {
            return OUTSIDE;
        }
        int own = at(lighter.kind, bay);
        boolean isSuch = kind == BAY || kind == own || (kind == FAR && own == DEEP);
        return isSuch ? bay : NONE;
    }

    public int ground(boolean is) {
        if (!held) {
            return STATE;
        }
        int was = asNumber(now.aground);
        now.aground = is;
        return was;
    }

    public int hull(int what) {
        if (what < 0 || what > 3) {
            return OUTSIDE;
        }
        if (!held) {
            return STATE;
        }
        switch (what) {
            case 0: return bentBy(now.lying);
            case 1: return listingBy(now.lying);
            case 2: return asNumber(lighter.bears(now.lying, bendNow()));
            default: return bendNow();
        }
    }

    // ---- acts

    public int may(int act) {
        if (!held || !isAct(act)) {
            return UNKNOWN;
        }
        return asNumber(lighter.behind(now.lying, act, bendNow()) != NONE);
    }

    public int act(int act) {
        if (!held || !isAct(act)) {
            return UNKNOWN;
        }
        int then = lighter.behind(now.lying, act, bendNow());
        if (then == NONE) {
            return STATE;
        }
        now.out += tonsOf(now.lying) - tonsOf(then);
        now.lying = then;
        now.minutes += lighter.minutesOf(act);
        return now.minutes;
    }

    // ---- what would be

    public int soonest(int what) {
        if (what < 0 || what > 1) {
            return OUTSIDE;
        }
        if (!held) {
            return STATE;
        }
        lookAhead();
        return what == 0 ? outlook.minutes[EMPTY] : outlook.first[EMPTY];
    }

    public int most() {
        if (!held) {
            return STATE;
        }
        lookAhead();
        return outlook.mostOut;
    }

    public int holds() {
        if (!held) {
            return STATE;
        }
        lookAhead();
        return outlook.comeTo;
    }

    public int leastBend() {
        if (!held || easings >= MOST_EASINGS) {
            return STATE;
        }
        easings++;
        return easing.leastFrom(lighter, now.lying);
    }

    // ---- a string

    public int string(int bent) {
        if (bent < 0 || bent > MOST_BENT) {
            return OUTSIDE;
        }
        if (now.told < 0 || now.told >= now.bents.length) {
            return FULL;
        }
        now.bents[now.told] = bent;
        now.told++;
        return now.told;
    }

    public int forget() {
        int had = now.told;
        now.told = 0;
        return had;
    }

    public int fits(int what) {
        if (what < 0 || what > 2) {
            return OUTSIDE;
        }
        if (!held) {
            return STATE;
        }
        lookBack();
        switch (what) {
            case 0: return fit.rows;
            case 1: return fit.firsts;
            default: return fit.leastFirst;
        }
    }

    public int days(int acts, int seed, int what) {
        if (acts < 1 || acts > MOST_DAYS || seed < 0 || what < 0 || what > 3) {
            return OUTSIDE;
        }
        if (!held) {
            return STATE;
        }
        int bend = bendNow();
        int lying = now.lying;
        int drawn = seed;
        int done = 0;
        int spent = 0;
        for (int i = 0; i < acts; i++) {
            drawn = nextSeed(drawn);
            int number = drawn / 65536 % NUMBERS;
            int then = isAct(number) ? lighter.behind(lying, number, bend) : NONE;
            if (then != NONE) {
                lying = then;
                done++;
                spent += lighter.minutesOf(number);
            }
        }
        switch (what) {
            case 0: return done;
            case 1: return spent;
            case 2: return tonsOf(lying);
            default: return drawn;
        }
    }

    // ---- what is told of all

    public int image() {
        if (!held) {
            return STATE;
        }
        kept.copyOf(now);
        isKept = true;
        return now.minutes;
    }

    public int restore() {
        if (!isKept) {
            return STATE;
        }
        now.copyOf(kept);
        return now.minutes;
    }

    public int count(int what) {
        switch (what) {
            case 0: return lighter.bend;
            case 1: return lighter.list;
            case 2: return tonsOf(now.lying);
            case 3: return now.out;
            case 4: return now.minutes;
            case 5: return asNumber(now.aground);
            case 6: return now.told;
            case 7: return letters;
            case 8: return reads;
            case 9: return easings;
            default: return OUTSIDE;
        }
    }

    public long digest() {
        long h = 829;
        if (held) {
            lookAhead();
            lookBack();
            h = withLighter(h);
            h = withActs(h);
            h = withOutlook(h);
        }
        for (int place = 0; place < letters && place < page.length; place++) {
            h = 31 * h + page[place];
        }
        for (int what = 0; what <= 9; what++) {
            h = 31 * h + count(what);
        }
        return h;
    }

    private long withLighter(long before) {
        long h = before;
        for (int bay = 0; bay < BAYS; bay++) {
            for (int what = 0; what <= 4; what++) {
                h = 31 * h + bay(bay, what);
            }
        }
        for (int what = 0; what <= 3; what++) {
            h = 31 * h + hull(what);
        }
        return h;
    }

    private long withActs(long before) {
        long h = before;
        for (int number : ACTS) {
            h = 31 * h + may(number);
        }
        return h;
    }

    /** Behind lookAhead and lookBack, so that neither search is done once for each number. */
    private long withOutlook(long before) {
        long h = before;
        h = 31 * h + outlook.minutes[EMPTY];
        h = 31 * h + outlook.first[EMPTY];
        h = 31 * h + outlook.mostOut;
        h = 31 * h + outlook.comeTo;
        h = 31 * h + fit.rows;
        h = 31 * h + fit.firsts;
        return 31 * h + fit.leastFirst;
    }

    private static boolean isOfForm(int place, int code) {
        if (place < 0 || place >= FORM.length()) {
            return false;
        }
        char due = FORM.charAt(place);
        if (due == 'k') {
            return KINDS.indexOf((char) code) >= 0;
        }
        if (due >= '0' && due <= '9') {
            return code >= '0' && code <= due;
        }
        return code == due;
    }

    /** Reads the lighter off a faultless page; how tons lie in her. */
    private int readPage() {
        int lying = EMPTY;
        for (int bay = 0; bay < BAYS; bay++) {
            lighter.setKind(bay, KINDS.indexOf((char) at(page, 4 * bay)));
            lying |= digitAt(4 * bay + 1) << 4 * bay;
            lying |= digitAt(4 * bay + 2) << 4 * bay + 2;
        }
        lighter.bend = digitAt(4 * BAYS);
        lighter.list = digitAt(4 * BAYS + 1);
        return lying;
    }

    private int digitAt(int place) {
        return at(page, place) - '0';
    }

    private boolean isBay(int bay) {
        return held && bay >= 0 && bay < BAYS;
    }

    private int bendNow() {
        return now.aground ? lighter.bend / 2 : lighter.bend;
    }

    private void lookAhead() {
        outlook.lookFrom(lighter, now.lying, bendNow(), reads);
    }

    private void lookBack() {
        fit.tellOf(lighter, now, bendNow());
    }

    private static int at(int[] row, int place) {
        return place >= 0 && place < row.length ? row[place] : 0;
    }

    private static int asNumber(boolean is) {
        return is ? 1 : 0;
    }

    private static int nextSeed(int seed) {
        return (int) ((1103515245L * seed + 12345L) % 2147483648L);
    }

    private static int cellFrom(int act) {
        return act < CELLS ? act : (act - CELLS) / CELLS;
    }

    /** NONE: the ton is TAKEN out. */
    private static int cellInto(int act) {
        return act < CELLS ? NONE : (act - CELLS) % CELLS;
    }

    private static boolean isAct(int number) {
        if (number < 0 || number >= NUMBERS) {
            return false;
        }
        if (number < CELLS) {
            return true;
        }
        int from = cellFrom(number);
        int into = cellInto(number);
        int baysApart = Math.abs(from / 2 - into / 2);
        boolean sameSide = from % 2 == into % 2;
        return sameSide ? baysApart == 1 : baysApart == 0;
    }

    private static int tonsAt(int lying, int cell) {
        return lying >> 2 * cell & 3;
    }

    private static int tonsOf(int lying) {
        int tons = 0;
        for (int cell = 0; cell < CELLS; cell++) {
            tons += tonsAt(lying, cell);
        }
        return tons;
    }

    private static int bentBy(int lying) {
        int ends = (lying & 3) + (lying >> 2 & 3) + (lying >> 8 & 3) + (lying >> 10 & 3);
        int middle = (lying >> 4 & 3) + (lying >> 6 & 3);
        int unlike = ends - 2 * middle;
        return unlike < 0 ? -unlike : unlike;
    }

    private static int listingBy(int lying) {
        int left = (lying & 3) + (lying >> 4 & 3) + (lying >> 8 & 3);
        int right = (lying >> 2 & 3) + (lying >> 6 & 3) + (lying >> 10 & 3);
        return left < right ? right - left : left - right;
    }

    /** What stays as it was read: the KINDS of her BAYS and what she bears. */
    private static final class Lighter {
        final int[] kind = new int[BAYS];
        final int[] taking = new int[BAYS];
        final int[] carrying = new int[BAYS];
        int bend = 0;
        int list = 0;

        void setKind(int bay, int asKind) {
            if (bay < 0 || bay >= kind.length) {
                return;
            }
            kind[bay] = asKind;
            taking[bay] = at(TAKING, asKind);
            carrying[bay] = at(CARRYING, asKind);
        }

        boolean bears(int lying, int upTo) {
            return bentBy(lying) <= upTo && listingBy(lying) <= list;
        }

        int minutesOf(int act) {
            return at(act < CELLS ? taking : carrying, cellFrom(act) / 2);
        }

        /** How tons lie behind an ACT that may be done; NONE: it may not. */
        int behind(int lying, int act, int upTo) {
            int then = moved(lying, act);
            return then != NONE && bears(then, upTo) ? then : NONE;
        }

        /** How tons lie behind an ACT, whether she bears it or not; NONE: no ton is there, or no room. */
        int moved(int lying, int act) {
            int from = cellFrom(act);
            int into = cellInto(act);
            if ((lying >> 2 * from & 3) == 0) {
                return NONE;
            }
            int then = lying - (1 << 2 * from);
            if (into != NONE) {
                if ((lying >> 2 * into & 3) == CELL_ROOM) {
                    return NONE;
                }
                then += 1 << 2 * into;
            }
            return slid(then);
        }

        int slid(int lying) {
            int then = lying;
            for (int bay = 0; bay < kind.length; bay++) {
                if (kind[bay] == HEAPED) {
                    int leftTon = 1 << 4 * bay;
                    int rightTon = leftTon << 2;
                    int more = (lying >> 4 * bay & 3) - (lying >> 4 * bay + 2 & 3);
                    if (more >= 2) {
                        then += rightTon - leftTon;
                    } else if (more <= -2) {
                        then += leftTon - rightTon;
                    }
                }
            }
            return then;
        }
    }

    /** What goes on: all that an IMAGE keeps. */
    private static final class Now {
        int lying = EMPTY;
        boolean aground = false;
        int minutes = 0;
        int out = 0;
        final int[] bents = new int[STRING_ROOM];
        int told = 0;

        void clear() {
            lying = EMPTY;
            aground = false;
            minutes = 0;
            out = 0;
            told = 0;
        }

        void copyOf(Now other) {
            lying = other.lying;
            aground = other.aground;
            minutes = other.minutes;
            out = other.out;
            for (int i = 0; i < bents.length && i < other.bents.length; i++) {
                bents[i] = other.bents[i];
            }
            told = other.told;
        }
    }

    /**
     * Everything that can be come to, minute by minute. What waits stands in SLOTS rows, by its
     * minute's rest: as no ACT lasts longer than 4 MINUTES, a row never holds two minutes at once.
     */
    private static final class Outlook {
        static final int SLOTS = 5;
        /** No row of ACTS that is soonest comes to the same twice. */
        static final int LONGEST = 4 * LYINGS;

        /** Fewest MINUTES until tons lie so; NONE: never. */
        final int[] minutes = new int[LYINGS];
        /** The least first ACT of all rows that last no longer. */
        final int[] first = new int[LYINGS];
        final int[] waiting = new int[SLOTS * LYINGS];
        final int[] waitingIn = new int[SLOTS];
        int waitingInAll = 0;
        int comeTo = 0;
        int mostOut = 0;
        int knownRead = 0;
        int knownLying = NONE;
        int knownTons = 0;
        int knownBend = NONE;

        void lookFrom(Lighter lighter, int lying, int bend, int read) {
            if (read == knownRead && lying == knownLying && bend == knownBend) {
                return;
            }
            knownRead = read;
            knownLying = lying;
            knownTons = tonsOf(lying);
            knownBend = bend;
            Arrays.fill(minutes, NONE);
            Arrays.fill(first, NONE);
            Arrays.fill(waitingIn, 0);
            waitingInAll = 0;
            comeTo = 0;
            mostOut = 0;
            reach(lying, 0, NONE);
            for (int minute = 0; minute <= LONGEST && waitingInAll > 0; minute++) {
                int slot = minute % SLOTS;
                int count = Math.min(waitingIn[slot], LYINGS);
                for (int i = 0; i < count; i++) {
                    leave(lighter, waiting[slot * LYINGS + i], minute, bend);
                }
                waitingIn[slot] = 0;
                waitingInAll -= count;
            }
        }

        void leave(Lighter lighter, int lying, int minute, int bend) {
            // It was reached sooner, after it had begun to wait for this minute.
            if (lying < 0 || lying >= LYINGS || minutes[lying] != minute) {
                return;
            }
            comeTo++;
            mostOut = Math.max(mostOut, knownTons - tonsOf(lying));
            for (int act : ACTS) {
                int then = lighter.behind(lying, act, bend);
                if (then != NONE) {
                    int began = first[lying] == NONE ? act : first[lying];
                    reach(then, minute + lighter.minutesOf(act), began);
                }
            }
        }

        void reach(int lying, int minute, int began) {
            if (lying < 0 || lying >= LYINGS || minute < 0) {
                return;
            }
            int slot = minute % SLOTS;
            if (minutes[lying] == NONE || minute < minutes[lying]) {
                if (waitingIn[slot] < LYINGS) {
                    minutes[lying] = minute;
                    first[lying] = began;
                    waiting[slot * LYINGS + waitingIn[slot]] = lying;
                    waitingIn[slot]++;
                    waitingInAll++;
                }
            } else if (minute == minutes[lying] && began < first[lying]) {
                first[lying] = began;
            }
        }
    }

    /**
     * By how small a BEND she could be emptied: one flood for all, whose BEND rises only when
     * nothing more is come to by it; what needs more waits in the chain of its own BEND.
     */
    private static final class Easing {
        static final int END = -1, UNSEEN = -2;

        final int[] next = new int[LYINGS];
        final int[] head = new int[MOST_BENT + 1];

        int leastFrom(Lighter lighter, int lying) {
            Arrays.fill(next, UNSEEN);
            Arrays.fill(head, END);
            put(lying, 0);
            for (int bend = 0; bend < head.length; bend++) {
                for (int i = 0; i < LYINGS && head[bend] != END; i++) {
                    if (head[bend] == EMPTY) {
                        return bend;
                    }
                    leaveHead(lighter, bend);
                }
            }
            return NONE;
        }

        void leaveHead(Lighter lighter, int bend) {
            int lying = bend >= 0 && bend < head.length ? head[bend] : END;
            if (lying < 0 || lying >= LYINGS) {
                return;
            }
            head[bend] = next[lying];
            for (int act : ACTS) {
                int then = lighter.moved(lying, act);
                if (then != NONE && listingBy(then) <= lighter.list) {
                    put(then, Math.max(bend, bentBy(then)));
                }
            }
        }

        void put(int lying, int bend) {
            if (lying < 0 || lying >= LYINGS || bend < 0 || bend >= head.length) {
                return;
            }
            if (next[lying] == UNSEEN) {
                next[lying] = head[bend];
                head[bend] = lying;
            }
        }
    }

    /** Which rows of ACTS make what the STRING tells. */
    private static final class Fit {
        int rows = 0;
        int firsts = 0;
        int leastFirst = NONE;

        void tellOf(Lighter lighter, Now now, int bend) {
            rows = now.told == 0 ? 1 : 0;
            firsts = 0;
            leastFirst = NONE;
            if (now.told == 0) {
                return;
            }
            for (int act : ACTS) {
                int made = rowsBehind(lighter, now, bend, lighter.behind(now.lying, act, bend), 0);
                if (made > 0) {
                    rows += made;
                    firsts++;
                    leastFirst = leastFirst == NONE ? act : leastFirst;
                }
            }
        }

        /** How many rows go on from what lies behind the ACT at this place of the STRING. */
        private static int rowsBehind(Lighter lighter, Now now, int bend, int lying, int place) {
            if (lying == NONE || place < 0 || place >= now.told || place >= now.bents.length) {
                return 0;
            }
            if (bentBy(lying) != now.bents[place]) {
                return 0;
            }
            if (place + 1 == now.told) {
                return 1;
            }
            int made = 0;
            for (int act : ACTS) {
                made += rowsBehind(lighter, now, bend, lighter.behind(lying, act, bend), place + 1);
            }
            return made;
        }
    }
}
