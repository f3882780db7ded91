import java.util.ArrayDeque;
import java.util.ArrayList;
import java.util.HashMap;
import java.util.HashSet;
import java.util.List;
import java.util.Map;
import java.util.PriorityQueue;
import java.util.Random;
import java.util.Set;
import java.util.TreeSet;

/** Long runs of drawn calls, each answer held against a second, slow and plain telling of the document. */
public final class OracleTest {
    private static final int RUNS = 200, CALLS = 512;
    private static int wrong = 0;

    /** The document once more, with lists and maps, sharing no way of reckoning with the class. */
    private static final class Model {
        final StringBuilder page = new StringBuilder();
        String hold = null;
        List<Integer> cells = List.of(0, 0, 0, 0, 0, 0);
        boolean aground = false;
        int minutes = 0, out = 0, reads = 0, easings = 0;
        List<Integer> string = new ArrayList<>();
        Object[] image = null;

        boolean isHoldStart(String text) {
            String full = "b00,b00,b00;00";
            if (text.length() > full.length()) return false;
            return (text + full.substring(text.length())).matches("([bnfhd][0-3][0-3],){2}[bnfhd][0-3][0-3];[0-9][0-9]");
        }
        int letter(int code) {
            if (code < 1 || code > 126) return -102;
            if (page.length() == 16) return -104;
            page.append((char) code);
            return page.length();
        }
        int blank() { int n = page.length(); page.setLength(0); return n; }
        int fault() {
            for (int n = 1; n <= page.length(); n++) if (!isHoldStart(page.substring(0, n))) return n - 1;
            return page.length();
        }
        int hold() {
            if (page.length() != 14 || !isHoldStart(page.toString())) return -103;
            hold = page.toString();
            page.setLength(0);
            List<Integer> read = new ArrayList<>();
            for (int place : new int[] {1, 2, 5, 6, 9, 10}) read.add(hold.charAt(place) - '0');
            cells = read;
            aground = false; minutes = 0; out = 0; string = new ArrayList<>(); image = null; reads++;
            return lying(cells);
        }
        static int lying(List<Integer> c) { return c.stream().mapToInt(i -> i).sum(); }
        char kind(int bay) { return hold.charAt(4 * bay); }
        int bend() { return hold == null ? 0 : hold.charAt(12) - '0'; }
        int list() { return hold == null ? 0 : hold.charAt(13) - '0'; }
        int bearsBent() { return aground ? bend() / 2 : bend(); }
        int taking(int bay) { switch (kind(bay)) { case 'n': return 1; case 'f': return 3; case 'd': return 4; default: return 2; } }
        int carrying(int bay) { return kind(bay) == 'd' ? 3 : 2; }
        int bay(int bay, int what) {
            if (hold == null || bay < 0 || bay > 2) return -101;
            if (what < 0 || what > 4) return -102;
            return new int[] {"bnfhd".indexOf(kind(bay)), cells.get(2 * bay), cells.get(2 * bay + 1), taking(bay), carrying(bay)}[what];
        }
        int as(int bay, int kind) {
            if (hold == null || bay < 0 || bay > 2) return -101;
            if (kind < 0 || kind > 4) return -102;
            String such = new String[] {"bnfhd", "n", "fd", "h", "d"}[kind];
            return such.indexOf(kind(bay)) >= 0 ? bay : -1;
        }
        int ground(boolean is) {
            if (hold == null) return -103;
            int was = aground ? 1 : 0;
            aground = is;
            return was;
        }
        static int bent(List<Integer> c) { return Math.abs(c.get(0) + c.get(1) + c.get(4) + c.get(5) - 2 * (c.get(2) + c.get(3))); }
        static int listing(List<Integer> c) { return Math.abs(c.get(0) + c.get(2) + c.get(4) - c.get(1) - c.get(3) - c.get(5)); }
        boolean bears(List<Integer> c, int bend) { return bent(c) <= bend && listing(c) <= list(); }
        int hull(int what) {
            if (what < 0 || what > 3) return -102;
            if (hold == null) return -103;
            return new int[] {bent(cells), listing(cells), bears(cells, bearsBent()) ? 1 : 0, bearsBent()}[what];
        }
        static boolean isAct(int n) {
            if (n < 0 || n > 41) return false;
            if (n <= 5) return true;
            String carry = (n - 6) / 6 + ">" + (n - 6) % 6;
            return List.of("0>1", "1>0", "2>3", "3>2", "4>5", "5>4",
                "0>2", "2>0", "2>4", "4>2", "1>3", "3>1", "3>5", "5>3").contains(carry);
        }
        /** null: it may not be done. */
        List<Integer> done(List<Integer> c, int act, int bend) {
            List<Integer> then = new ArrayList<>(c);
            int from = act <= 5 ? act : (act - 6) / 6;
            if (c.get(from) == 0) return null;
            then.set(from, c.get(from) - 1);
            if (act > 5) {
                int into = (act - 6) % 6;
                if (c.get(into) >= 3) return null;
                then.set(into, c.get(into) + 1);
            }
            for (int bay = 0; bay < 3; bay++) {
                if (kind(bay) != 'h') continue;
                int left = then.get(2 * bay), right = then.get(2 * bay + 1);
                if (left >= right + 2) { then.set(2 * bay, left - 1); then.set(2 * bay + 1, right + 1); }
                if (right >= left + 2) { then.set(2 * bay, left + 1); then.set(2 * bay + 1, right - 1); }
            }
            return bears(then, bend) ? then : null;
        }
        int lasts(int act) { return act <= 5 ? taking(act / 2) : carrying((act - 6) / 6 / 2); }
        int may(int act) {
            if (hold == null || !isAct(act)) return -101;
            return done(cells, act, bearsBent()) != null ? 1 : 0;
        }
        int act(int act) {
            if (hold == null || !isAct(act)) return -101;
            List<Integer> then = done(cells, act, bearsBent());
            if (then == null) return -103;
            cells = then;
            if (act <= 5) out++;
            return minutes += lasts(act);
        }
        /** All that can be come to from there, with the fewest minutes until it is. */
        Map<List<Integer>, Integer> soonestFrom(List<Integer> start, int bend) {
            Map<List<Integer>, Integer> best = new HashMap<>();
            PriorityQueue<Object[]> open = new PriorityQueue<>((a, b) -> (Integer) a[0] - (Integer) b[0]);
            open.add(new Object[] {0, start});
            while (!open.isEmpty()) {
                Object[] top = open.poll();
                @SuppressWarnings("unchecked") List<Integer> c = (List<Integer>) top[1];
                if (best.containsKey(c)) continue;
                best.put(c, (Integer) top[0]);
                for (int act = 0; act < 42; act++) {
                    List<Integer> then = isAct(act) ? done(c, act, bend) : null;
                    if (then != null && !best.containsKey(then)) open.add(new Object[] {(Integer) top[0] + lasts(act), then});
                }
            }
            return best;
        }
        static final List<Integer> EMPTY = List.of(0, 0, 0, 0, 0, 0);
        int soonest(int what) {
            if (what < 0 || what > 1) return -102;
            if (hold == null) return -103;
            Integer fewest = soonestFrom(cells, bearsBent()).get(EMPTY);
            if (fewest == null) return -1;
            if (what == 0) return fewest;
            if (fewest == 0) return -1;
            for (int act = 0; act < 42; act++) {
                List<Integer> then = isAct(act) ? done(cells, act, bearsBent()) : null;
                if (then == null) continue;
                Integer rest = soonestFrom(then, bearsBent()).get(EMPTY);
                if (rest != null && rest + lasts(act) == fewest) return act;
            }
            throw new IllegalStateException("no first act");
        }
        int most() {
            if (hold == null) return -103;
            int most = 0;
            for (List<Integer> c : soonestFrom(cells, bearsBent()).keySet()) most = Math.max(most, lying(cells) - lying(c));
            return most;
        }
        int holds() { return hold == null ? -103 : soonestFrom(cells, bearsBent()).size(); }
        int leastBend() {
            if (hold == null || easings == 12) return -103;
            easings++;
            for (int bend = 0; bend <= 12; bend++) if (canEmpty(bend)) return bend;
            return -1;
        }
        boolean canEmpty(int bend) {
            Set<List<Integer>> seen = new HashSet<>(Set.of(cells));
            ArrayDeque<List<Integer>> open = new ArrayDeque<>(Set.of(cells));
            while (!open.isEmpty()) {
                List<Integer> c = open.poll();
                if (c.equals(EMPTY)) return true;
                for (int act = 0; act < 42; act++) {
                    List<Integer> then = isAct(act) ? done(c, act, bend) : null;
                    if (then != null && seen.add(then)) open.add(then);
                }
            }
            return false;
        }
        int string(int bent) {
            if (bent < 0 || bent > 12) return -102;
            if (string.size() == 4) return -104;
            string.add(bent);
            return string.size();
        }
        int forget() { int n = string.size(); string = new ArrayList<>(); return n; }
        int fits(int what) {
            if (what < 0 || what > 2) return -102;
            if (hold == null) return -103;
            List<List<Integer>> ends = new ArrayList<>(List.of(cells));
            List<Integer> begun = new ArrayList<>(List.of(-1));
            for (int due : string) {
                List<List<Integer>> further = new ArrayList<>();
                List<Integer> furtherBegun = new ArrayList<>();
                for (int i = 0; i < ends.size(); i++) for (int act = 0; act < 42; act++) {
                    List<Integer> then = isAct(act) ? done(ends.get(i), act, bearsBent()) : null;
                    if (then == null || bent(then) != due) continue;
                    further.add(then);
                    furtherBegun.add(begun.get(i) < 0 ? act : begun.get(i));
                }
                ends = further;
                begun = furtherBegun;
            }
            if (what == 0) return ends.size();
            TreeSet<Integer> first = new TreeSet<>(begun);
            first.remove(-1);
            return what == 1 ? first.size() : first.isEmpty() ? -1 : first.first();
        }
        int days(int acts, int seed, int what) {
            if (acts < 1 || acts > 90 || seed < 0 || what < 0 || what > 3) return -102;
            if (hold == null) return -103;
            List<Integer> c = cells;
            long s = seed;
            int did = 0, spent = 0;
            for (int i = 0; i < acts; i++) {
                s = Math.floorMod(1103515245L * s + 12345L, 1L << 31);
                int act = (int) (Math.floorDiv(s, 65536L) % 42);
                List<Integer> then = isAct(act) ? done(c, act, bearsBent()) : null;
                if (then == null) continue;
                c = then;
                did++;
                spent += lasts(act);
            }
            return new int[] {did, spent, lying(c), (int) s}[what];
        }
        int image() {
            if (hold == null) return -103;
            image = new Object[] {cells, aground, minutes, out, new ArrayList<>(string)};
            return minutes;
        }
        @SuppressWarnings("unchecked")
        int restore() {
            if (image == null) return -103;
            cells = (List<Integer>) image[0];
            aground = (Boolean) image[1];
            minutes = (Integer) image[2];
            out = (Integer) image[3];
            string = new ArrayList<>((List<Integer>) image[4]);
            return minutes;
        }
        int count(int what) {
            if (what < 0 || what > 9) return -102;
            return new int[] {bend(), list(), lying(cells), out, minutes, aground ? 1 : 0, string.size(), page.length(), reads, easings}[what];
        }
        long digest() {
            List<Integer> all = new ArrayList<>();
            if (hold != null) {
                for (int b = 0; b < 3; b++) for (int w = 0; w < 5; w++) all.add(bay(b, w));
                for (int w = 0; w < 4; w++) all.add(hull(w));
                for (int a = 0; a < 42; a++) if (isAct(a)) all.add(may(a));
                all.add(soonest(0));
                all.add(soonest(1));
                all.add(most());
                all.add(holds());
                for (int w = 0; w < 3; w++) all.add(fits(w));
            }
            for (int i = 0; i < page.length(); i++) all.add((int) page.charAt(i));
            for (int w = 0; w < 10; w++) all.add(count(w));
            long h = 829;
            for (int n : all) h = 31 * h + n;
            return h;
        }
    }

    private final Random random;
    private final int run;
    private final EvenHold x = new EvenHold();
    private final Model model = new Model();
    private int calls = 0;
    private final List<String> told = new ArrayList<>();

    private OracleTest(int run) { this.run = run; this.random = new Random(run); }

    private void due(String call, long got, long want) {
        calls++;
        told.add(call + "=" + got);
        if (got != want) {
            wrong++;
            if (wrong <= 20) System.out.println("run " + run + ": " + call + " answered " + got + ", due is " + want + " behind " + told);
        }
    }
    private int number(int most) {
        int draw = random.nextInt(40);
        if (draw == 0) return new int[] {Integer.MIN_VALUE, Integer.MAX_VALUE, -1, most + 1, -2, 1000}[random.nextInt(6)];
        return random.nextInt(most + 1);
    }
    private void type(String text) {
        for (char c : text.toCharArray()) due("letter(" + (int) c + ")", x.letter(c), model.letter(c));
    }
    private String drawnHold() {
        int fullest = 1 + random.nextInt(4);
        // Mostly light ones: the plain telling is slow with many ways to lie.
        StringBuilder text = new StringBuilder();
        for (int bay = 0; bay < 3; bay++) {
            text.append(bay == 0 ? "" : ",").append("bnfhd".charAt(random.nextInt(5)));
            text.append(random.nextInt(fullest)).append(random.nextInt(fullest));
        }
        return text.append(';').append(random.nextInt(10)).append(random.nextInt(random.nextBoolean() ? 10 : 4)).toString();
    }
    private void read() {
        due("blank()", x.blank(), model.blank());
        String text = drawnHold();
        if (random.nextInt(4) == 0) {
            char[] spoilt = text.toCharArray();
            spoilt[random.nextInt(14)] = ",;0349bnfhdBa:/4 ".charAt(random.nextInt(17));
            text = new String(spoilt) + (random.nextInt(3) == 0 ? "0" : "");
        }
        type(text);
        due("fault()", x.fault(), model.fault());
        due("hold()", x.hold(), model.hold());
    }
    private void step() {
        int a, b, c;
        switch (random.nextInt(30)) {
            case 0: a = random.nextInt(8) == 0 ? number(126) : ",;0123bnfhd".charAt(random.nextInt(11)); due("letter(" + a + ")", x.letter(a), model.letter(a)); break;
            case 1: due("blank()", x.blank(), model.blank()); break;
            case 2: due("fault()", x.fault(), model.fault()); break;
            case 3: due("hold()", x.hold(), model.hold()); break;
            case 4: a = number(2); b = number(4); due("bay(" + a + "," + b + ")", x.bay(a, b), model.bay(a, b)); break;
            case 5: a = number(2); b = number(4); due("as(" + a + "," + b + ")", x.as(a, b), model.as(a, b)); break;
            case 6: boolean is = random.nextBoolean(); due("ground(" + is + ")", x.ground(is), model.ground(is)); break;
            case 7: a = number(3); due("hull(" + a + ")", x.hull(a), model.hull(a)); break;
            case 8: case 9: a = number(41); due("may(" + a + ")", x.may(a), model.may(a)); break;
            case 10: case 11: case 12: case 13: case 14: case 15:
                a = number(41); due("act(" + a + ")", x.act(a), model.act(a)); break;
            case 16: if (random.nextInt(4) != 0) break; a = number(1); due("soonest(" + a + ")", x.soonest(a), model.soonest(a)); break;
            case 17: if (random.nextInt(3) != 0) break; due("most()", x.most(), model.most()); break;
            case 18: if (random.nextInt(3) != 0) break; due("holds()", x.holds(), model.holds()); break;
            case 19: if (random.nextInt(4) != 0) break; due("leastBend()", x.leastBend(), model.leastBend()); break;
            case 20: case 21: a = number(random.nextBoolean() ? 4 : 12); due("string(" + a + ")", x.string(a), model.string(a)); break;
            case 22: if (random.nextInt(3) != 0) break; due("forget()", x.forget(), model.forget()); break;
            case 23: case 24: a = number(2); due("fits(" + a + ")", x.fits(a), model.fits(a)); break;
            case 25: a = random.nextInt(9) == 0 ? number(90) : 1 + random.nextInt(90); b = random.nextInt(9) == 0 ? number(9) : random.nextInt(Integer.MAX_VALUE); c = number(3);
                due("days(" + a + "," + b + "," + c + ")", x.days(a, b, c), model.days(a, b, c)); break;
            case 26: due("image()", x.image(), model.image()); break;
            case 27: due("restore()", x.restore(), model.restore()); break;
            case 28: a = number(9); due("count(" + a + ")", x.count(a), model.count(a)); break;
            default: if (random.nextInt(6) == 0) due("digest()", x.digest(), model.digest()); break;
        }
    }
    private void all() {
        int length = 60 + random.nextInt(CALLS - 80);
        int start = random.nextInt(12);
        while (calls < length) {
            if (calls >= start && (model.hold == null || random.nextInt(70) == 0) && calls + 20 < length) read();
            step();
        }
    }
    public static void main(String[] args) {
        int runs = args.length > 0 ? Integer.parseInt(args[0]) : RUNS;
        long calls = 0;
        for (int run = 0; run < runs; run++) {
            OracleTest test = new OracleTest(run);
            test.all();
            calls += test.calls;
        }
        System.out.println(calls + " calls in " + runs + " runs, " + wrong + " answers are not as due");
        if (wrong != 0) System.exit(1);
    }
}
