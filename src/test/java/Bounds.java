import java.util.ArrayList;
import java.util.List;
import java.util.function.Supplier;

/** What the tests of the document's boundaries share: its sentences, due answers, and all that an object can tell. */
final class Bounds {
    static final int NONE = -1, UNKNOWN = -101, OUTSIDE = -102, STATE = -103, FULL = -104;
    static final int MIN = Integer.MIN_VALUE, MAX = Integer.MAX_VALUE;
    /** The numbers that are ACTS, as read off the document by hand. */
    static final List<Integer> TAKINGS = List.of(0, 1, 2, 3, 4, 5);
    static final List<Integer> CARRYINGS = List.of(7, 8, 12, 15, 18, 21, 22, 25, 26, 29, 32, 35, 39, 40);

    private static final long LONGEST_MILLIS = 60_000;
    private static volatile String sentence = "";
    private static volatile long begun = 0;
    private static int sentences = 0, checks = 0, wrong = 0;

    private Bounds() {
    }

    interface Call {
        long on(EvenHold x);
    }

    /** Ends the test of a sentence: what follows a wrong answer is of no use, and may not end. */
    private static final class NotAsDue extends RuntimeException {
        NotAsDue(String text) {
            super(text);
        }
    }

    /** One sentence of the document with the test of it alone. */
    static void sentence(String words, Runnable test) {
        sentence = words;
        begun = System.currentTimeMillis();
        if (sentences == 0) watch();
        sentences++;
        int before = checks;
        try {
            test.run();
            if (checks == before) tell("nothing was asked of it");
        } catch (NotAsDue e) {
            tell(e.getMessage());
        } catch (RuntimeException | StackOverflowError e) {
            tell("a call threw " + e + " at " + e.getStackTrace()[0]);
        }
    }

    /** No call may fail to end: then the test does, and fails. */
    private static void watch() {
        Thread watch = new Thread(() -> {
            while (System.currentTimeMillis() - begun < LONGEST_MILLIS) {
                try {
                    Thread.sleep(200);
                } catch (InterruptedException e) {
                    return;
                }
            }
            System.out.println("\"" + sentence + "\": a call does not end");
            Runtime.getRuntime().halt(1);
        });
        watch.setDaemon(true);
        watch.start();
    }

    static void due(String what, long got, long want) {
        checks++;
        if (got != want) throw new NotAsDue(what + " answered " + got + ", due is " + want);
    }

    private static void tell(String text) {
        wrong++;
        System.out.println("\"" + sentence + "\": " + text);
    }

    static void end() {
        System.out.println(sentences + " sentences, " + checks + " answers, " + wrong + " sentences do not hold");
        if (wrong != 0 || sentences == 0) {
            System.exit(1);
        }
    }

    static EvenHold typed(EvenHold x, String text) {
        for (char c : text.toCharArray()) x.letter(c);
        return x;
    }

    static EvenHold with(String hold) {
        EvenHold x = typed(new EvenHold(), hold);
        if (x.hold() < 0) throw new NotAsDue("hold() does not take " + hold);
        return x;
    }

    /** A HOLD's text of three KINDS, six CELLS, BEND and LIST. */
    static String text(String kinds, int[] cells, int bend, int list) {
        StringBuilder text = new StringBuilder();
        for (int bay = 0; bay < 3; bay++) {
            text.append(bay == 0 ? "" : ",").append(kinds.charAt(bay)).append(cells[2 * bay]).append(cells[2 * bay + 1]);
        }
        return text.append(';').append(bend).append(list).toString();
    }

    /** How tons lie, as six digits in the order of the CELLS. */
    static int cells(EvenHold x) {
        int all = 0;
        for (int cell = 0; cell < 6; cell++) all = 10 * all + x.bay(cell / 2, 1 + cell % 2);
        return all;
    }

    static int from(int act) {
        return act < 6 ? act : (act - 6) / 6;
    }

    static int into(int act) {
        return (act - 6) % 6;
    }

    static List<Integer> acts() {
        List<Integer> acts = new ArrayList<>(TAKINGS);
        acts.addAll(CARRYINGS);
        return acts;
    }

    /** Numbers outside low to high: the first on each side, the farthest, and some that a cut-off number would bring inside. */
    static int[] beyond(int low, int high) {
        return new int[] {low - 1, high + 1, MIN, MAX, MIN + low, low + 256, low + 65536, high - 65536, -high - 1};
    }

    /** An object in the midst of all: HOLD, ACTS done, AGROUND, a STRING that can be, another IMAGE, two letters. */
    static EvenHold busy() {
        EvenHold x = with("n21,h12,d13;97");
        x.leastBend();
        x.act(1);
        x.string(1);
        x.image();
        x.act(5);
        x.ground(true);
        x.forget();
        x.string(1);
        x.string(2);
        x.string(0);
        return typed(x, "b7");
    }

    /** An object without a HOLD, with what can be told of such a one. */
    static EvenHold bare() {
        EvenHold x = new EvenHold();
        x.string(4);
        return typed(x, "n2");
    }

    /** A refused call: its answer, and that all that can be told behind it is as if it had not been. */
    static void refused(String what, Supplier<EvenHold> made, long want, Call call) {
        EvenHold asked = made.get();
        EvenHold unasked = made.get();
        due(what, call.on(asked), want);
        List<Long> got = everything(asked);
        List<Long> due = everything(unasked);
        for (int i = 0; i < due.size(); i++) due(what + ": behind it, answer " + i, got.get(i), due.get(i));
    }

    /** All answers, those too that stand behind other calls (the IMAGE, room left); the object is used up by it. */
    static List<Long> everything(EvenHold x) {
        List<Long> all = new ArrayList<>(now(x));
        all.add((long) x.leastBend());
        all.add((long) x.string(1));
        all.add((long) x.fits(0));
        all.add((long) x.restore());
        all.addAll(now(x));
        for (int i = 0; i < 5; i++) all.add((long) x.string(i));
        all.add((long) x.forget());
        all.add((long) x.hold());
        all.add((long) x.letter('b'));
        all.add(x.digest());
        all.add((long) x.blank());
        for (int i = 0; i < 13; i++) all.add((long) x.leastBend());
        return all;
    }

    static List<Long> now(EvenHold x) {
        List<Long> all = new ArrayList<>();
        for (int what = 0; what <= 9; what++) all.add((long) x.count(what));
        all.add((long) x.fault());
        for (int bay = 0; bay < 3; bay++) for (int what = 0; what <= 4; what++) all.add((long) x.bay(bay, what));
        for (int bay = 0; bay < 3; bay++) for (int kind = 0; kind <= 4; kind++) all.add((long) x.as(bay, kind));
        for (int what = 0; what <= 3; what++) all.add((long) x.hull(what));
        for (int act : acts()) all.add((long) x.may(act));
        for (int what = 0; what <= 1; what++) all.add((long) x.soonest(what));
        all.add((long) x.most());
        all.add((long) x.holds());
        for (int what = 0; what <= 2; what++) all.add((long) x.fits(what));
        for (int what = 0; what <= 3; what++) all.add((long) x.days(30, 291, what));
        all.add(x.digest());
        return all;
    }
}
