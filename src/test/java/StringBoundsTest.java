import java.math.BigInteger;

/** The boundaries of promises 16 to 19: a string, and days by a seed. */
public final class StringBoundsTest {

    private static EvenHold stringOf(EvenHold x, int... bents) {
        x.forget();
        for (int bent : bents) x.string(bent);
        return x;
    }

    private static EvenHold fullString() {
        return stringOf(Bounds.busy(), 1, 2, 0, 2);
    }

    // ---- 16 string

    private static void howManyActs() {
        EvenHold x = Bounds.with("b10,b00,b00;99");
        Bounds.due("string(0), the least", x.string(0), 1);
        Bounds.due("string(12), the greatest", x.string(12), 2);
        Bounds.due("string(12)", x.string(12), 3);
        Bounds.due("string(0)", x.string(0), 4);
        for (int bent = 0; bent <= 12; bent++) Bounds.due("string(" + bent + ")", new EvenHold().string(bent), 1);
    }

    private static void bentOutside() {
        for (int bent : Bounds.beyond(0, 12)) {
            Bounds.refused("string(" + bent + ")", Bounds::busy, Bounds.OUTSIDE, x -> x.string(bent));
            Bounds.refused("string(" + bent + ") without a hold", Bounds::bare, Bounds.OUTSIDE, x -> x.string(bent));
        }
    }

    private static void fourAtMost() {
        EvenHold x = fullString();
        Bounds.due("count(6)", x.count(6), 4);
        Bounds.due("fits(0) of four", x.fits(0) > 0 ? 1 : 0, 1);
        for (int bent = 0; bent <= 12; bent++) {
            int told = bent;
            Bounds.refused("string(" + bent + ") as 5", StringBoundsTest::fullString, Bounds.FULL, y -> y.string(told));
        }
        Bounds.refused("string(1) as 5 without a hold", () -> stringOf(Bounds.bare(), 1, 1, 1, 1), Bounds.FULL, y -> y.string(1));
    }

    private static void outsideAheadOfFull() {
        for (int bent : Bounds.beyond(0, 12)) {
            Bounds.refused("string(" + bent + ") as 5", StringBoundsTest::fullString, Bounds.OUTSIDE, x -> x.string(bent));
        }
    }

    private static void withoutAHold() {
        EvenHold x = new EvenHold();
        for (int n = 1; n <= 4; n++) Bounds.due("string(3) as " + n, x.string(3), n);
        Bounds.due("string(3) as 5", x.string(3), Bounds.FULL);
        Bounds.due("forget()", x.forget(), 4);
        Bounds.due("string(3) then", x.string(3), 1);
    }

    // ---- 17 forget

    private static void forgets() {
        for (int acts = 0; acts <= 4; acts++) {
            EvenHold x = Bounds.with("b10,b00,b00;99");
            for (int n = 0; n < acts; n++) x.string(1);
            Bounds.due("forget() of " + acts, x.forget(), acts);
            Bounds.due("count(6) then", x.count(6), 0);
            Bounds.due("fits(0) then", x.fits(0), 1);
            Bounds.due("forget() again", x.forget(), 0);
            Bounds.due("string(0) then", x.string(0), 1);
            Bounds.due("fits(0) of that alone", x.fits(0), 1);
        }
    }

    private static void forgetsTheStringAlone() {
        EvenHold x = Bounds.busy();
        EvenHold y = Bounds.busy();
        Bounds.due("forget()", x.forget(), 3);
        for (int what = 0; what <= 9; what++) if (what != 6) Bounds.due("count(" + what + ")", x.count(what), y.count(what));
        Bounds.due("cells", Bounds.cells(x), Bounds.cells(y));
        Bounds.due("restore()", x.restore(), 1);
        Bounds.due("count(6) of the IMAGE", x.count(6), 1);
    }

    // ---- 18 fits

    private static void told(String what, EvenHold x, int rows, int firsts, int least) {
        Bounds.due("fits(0) " + what, x.fits(0), rows);
        Bounds.due("fits(1) " + what, x.fits(1), firsts);
        Bounds.due("fits(2) " + what, x.fits(2), least);
    }

    private static void emptyString() {
        told("of a new hold", Bounds.with("b11,b11,b11;99"), 1, 0, Bounds.NONE);
        told("where nothing may be done", Bounds.with("b11,b11,b11;00"), 1, 0, Bounds.NONE);
        told("of no tons", Bounds.with("b00,b00,b00;00"), 1, 0, Bounds.NONE);
        told("that was forgotten", stringOf(Bounds.busy()), 1, 0, Bounds.NONE);
    }

    private static void oneAct() {
        // One ton in the bow: out is 0, across is 1, into the middle is 2.
        told("of 0", stringOf(Bounds.with("b10,b00,b00;99"), 0), 1, 1, 0);
        told("of 1", stringOf(Bounds.with("b10,b00,b00;99"), 1), 1, 1, 7);
        told("of 2", stringOf(Bounds.with("b10,b00,b00;99"), 2), 1, 1, 8);
        for (int bent = 3; bent <= 12; bent++) told("of " + bent, stringOf(Bounds.with("b10,b00,b00;99"), bent), 0, 0, Bounds.NONE);
    }

    private static void oneBehindTheOther() {
        told("of 2, 1", stringOf(Bounds.with("b10,b00,b00;99"), 2, 1), 2, 1, 8);
        told("of 1, 2", stringOf(Bounds.with("b10,b00,b00;99"), 1, 2), 1, 1, 7);
        told("of 1, 0", stringOf(Bounds.with("b10,b00,b00;99"), 1, 0), 1, 1, 7);
        told("of 0, 1", stringOf(Bounds.with("b10,b00,b00;99"), 0, 1), 0, 0, Bounds.NONE);
        told("of 0, 0", stringOf(Bounds.with("b10,b00,b00;99"), 0, 0), 0, 0, Bounds.NONE);
    }

    private static void fourActs() {
        // One ton: 2 in the middle, 1 at an end. Middle, end (2), middle, end (2).
        told("of 2, 1, 2, 1", stringOf(Bounds.with("b10,b00,b00;99"), 2, 1, 2, 1), 4, 1, 8);
        told("of 2, 1, 2, 0", stringOf(Bounds.with("b10,b00,b00;99"), 2, 1, 2, 0), 2, 1, 8);
        told("of 1, 1, 1, 1", stringOf(Bounds.with("b10,b00,b00;99"), 1, 1, 1, 1), 1, 1, 7);
        told("of 1, 1, 1, 2", stringOf(Bounds.with("b10,b00,b00;99"), 1, 1, 1, 2), 1, 1, 7);
        told("whose fourth can't be", stringOf(Bounds.with("b10,b00,b00;99"), 1, 1, 1, 3), 0, 0, Bounds.NONE);
        told("whose first can't be", stringOf(Bounds.with("b10,b00,b00;99"), 3, 1, 1, 1), 0, 0, Bounds.NONE);
    }

    private static void unlikeFirsts() {
        // Ends and twice the middle: 3 and 4 by taking from an end, 4 and 2 from the middle, 3 and 6 or 5 and 2 by carrying.
        told("of 1: four takings", stringOf(Bounds.with("b11,b11,b11;99"), 1), 4, 4, 0);
        told("of 2: two takings", stringOf(Bounds.with("b11,b11,b11;99"), 2), 2, 2, 2);
        told("of 0: six across", stringOf(Bounds.with("b11,b11,b11;99"), 0), 6, 6, 7);
        told("of 3: eight beside", stringOf(Bounds.with("b11,b11,b11;99"), 3), 8, 8, 8);
        // Behind a taking from an end: three more takings there, or a ton of the middle carried to either end.
        told("of 1, 2: four firsts, seven rows each", stringOf(Bounds.with("b11,b11,b11;99"), 1, 2), 4 * (3 + 4), 4, 0);
    }

    private static void thatMayBeDone() {
        told("of 9, BEND 9", stringOf(Bounds.with("b00,b33,b00;99"), 9), 4, 4, 18);
        told("of 9, BEND 8", stringOf(Bounds.with("b00,b33,b00;89"), 9), 0, 0, Bounds.NONE);
        told("of 10, BEND 9", stringOf(Bounds.with("b00,b33,b00;99"), 10), 0, 0, Bounds.NONE);
        told("of 1, LIST 1: taken, or carried into the middle", stringOf(Bounds.with("b11,b00,b00;91"), 1), 4, 4, 0);
        told("of 1, LIST 0: carried into the middle", stringOf(Bounds.with("b11,b00,b00;90"), 1), 2, 2, 8);
        EvenHold rock = stringOf(Bounds.with("b11,b00,b00;29"), 2);
        told("of 2 afloat", rock, 2, 2, 7);
        rock.ground(true);
        told("of 2 aground", rock, 0, 0, Bounds.NONE);
        rock.ground(false);
        told("of 2 afloat again", rock, 2, 2, 7);
        told("of what slid", stringOf(Bounds.with("h11,b00,b00;90"), 2), 2, 2, 7);
    }

    private static void laterOnesMayToo() {
        told("of 1, 2, BEND 2", stringOf(Bounds.with("b10,b00,b00;29"), 1, 2), 1, 1, 7);
        told("of 1, 2, BEND 1", stringOf(Bounds.with("b10,b00,b00;19"), 1, 2), 0, 0, Bounds.NONE);
        told("of 1, 1, 1, 2, BEND 1", stringOf(Bounds.with("b10,b00,b00;19"), 1, 1, 1, 2), 0, 0, Bounds.NONE);
        // Two of the ends are taken: the second of the same side lists by 2.
        told("of 3, 2, LIST 2", stringOf(Bounds.with("b11,b00,b11;92"), 3, 2), 4 * 3, 4, 0);
        told("of 3, 2, LIST 1", stringOf(Bounds.with("b11,b00,b11;91"), 3, 2), 4 * 2, 4, 0);
        told("of 3, 2, LIST 0", stringOf(Bounds.with("b11,b00,b11;90"), 3, 2), 0, 0, Bounds.NONE);
    }

    private static void fromNowOn() {
        EvenHold x = stringOf(Bounds.with("b10,b00,b00;99"), 2, 1);
        told("as told", x, 2, 1, 8);
        x.act(8);
        told("from the middle: across, then to either end", x, 2, 1, 21);
        x.forget();
        x.string(1);
        told("of 1 from the middle", x, 2, 2, 18);
    }

    private static void fitsOnlyTells() {
        EvenHold x = Bounds.busy();
        EvenHold y = Bounds.busy();
        for (int what = 0; what <= 2; what++) x.fits(what);
        Bounds.due("digest()", x.digest(), y.digest());
        Bounds.due("fits(0) again", x.fits(0), y.fits(0));
    }

    private static void fitsOutside() {
        for (int what : Bounds.beyond(0, 2)) {
            Bounds.refused("fits(" + what + ")", Bounds::busy, Bounds.OUTSIDE, x -> x.fits(what));
            Bounds.due("fits(" + what + ") of an empty string", Bounds.with("b00,b00,b00;00").fits(what), Bounds.OUTSIDE);
        }
    }

    private static void fitsWithoutAHold() {
        for (int what = 0; what <= 2; what++) {
            int asked = what;
            Bounds.refused("fits(" + what + ")", Bounds::bare, Bounds.STATE, x -> x.fits(asked));
            Bounds.due("fits(" + what + ") of an empty string", new EvenHold().fits(what), Bounds.STATE);
        }
    }

    private static void fitsOutsideFirst() {
        for (int what : Bounds.beyond(0, 2)) Bounds.refused("fits(" + what + ")", Bounds::bare, Bounds.OUTSIDE, x -> x.fits(what));
    }

    // ---- 19 days

    private static long next(long seed) {
        return BigInteger.valueOf(1103515245L).multiply(BigInteger.valueOf(seed)).add(BigInteger.valueOf(12345))
            .mod(BigInteger.ONE.shiftLeft(31)).longValueExact();
    }

    private static int draw(long seedThen) {
        return (int) (seedThen / 65536 % 42);
    }

    private static void seedThen() {
        EvenHold x = Bounds.with("b11,b11,b11;99");
        int[] seeds = {0, 1, 2, 65535, 65536, 12345, 1 << 30, Bounds.MAX - 1, Bounds.MAX};
        for (int seed : seeds) {
            long want = seed;
            for (int acts = 1; acts <= 3; acts++) {
                want = next(want);
                Bounds.due("days(" + acts + ", " + seed + ", 3)", x.days(acts, seed, 3), want);
            }
        }
        Bounds.due("days(1, 0, 3)", x.days(1, 0, 3), 12345);
        Bounds.due("days(1, 1, 3)", x.days(1, 1, 3), 1103527590);
        Bounds.due("days(1, 2, 3): the rest by 2 to the 31", x.days(1, 2, 3), 2207042835L - 2147483648L);
        Bounds.due("days(1, MAX, 3)", x.days(1, Bounds.MAX, 3), 2147483648L - 1103515245L + 12345L);
    }

    private static void eachByADraw() {
        EvenHold x = Bounds.with("n11,f11,d11;99");
        int[] taking = {1, 3, 4}, carrying = {2, 2, 3};
        boolean[] seen = new boolean[42];
        int unseen = 42;
        for (int seed = 0, calls = 0; seed < 5000 && unseen > 0 && calls < 450; seed++) {
            int number = draw(next(seed));
            if (seen[number]) continue;
            seen[number] = true;
            unseen--;
            boolean is = Bounds.acts().contains(number);
            int bay = Bounds.from(number) / 2;
            Bounds.due("days(1, " + seed + ", 0), a draw of " + number, x.days(1, seed, 0), is ? 1 : 0);
            Bounds.due("days(1, " + seed + ", 1), a draw of " + number, x.days(1, seed, 1), !is ? 0 : number < 6 ? taking[bay] : carrying[bay]);
            Bounds.due("days(1, " + seed + ", 2), a draw of " + number, x.days(1, seed, 2), is && number < 6 ? 5 : 6);
            calls += 3;
        }
        Bounds.due("numbers that were not drawn", unseen, 0);
    }

    /** The same days by act() itself. */
    private static void asDone(String hold, boolean aground, int acts, int seed) {
        EvenHold would = Bounds.with(hold), done = Bounds.with(hold);
        would.ground(aground);
        done.ground(aground);
        long drawn = seed;
        int times = 0;
        for (int i = 0; i < acts; i++) {
            drawn = next(drawn);
            if (done.act(draw(drawn)) > 0) times++;
        }
        String what = "days(" + acts + ", " + seed + ", ..) of " + hold + (aground ? " aground" : "");
        Bounds.due(what + " 0", would.days(acts, seed, 0), times);
        Bounds.due(what + " 1", would.days(acts, seed, 1), done.count(4));
        Bounds.due(what + " 2", would.days(acts, seed, 2), done.count(2));
        Bounds.due(what + " 3", would.days(acts, seed, 3), drawn);
    }

    private static void doneIfItMayBe() {
        for (String hold : new String[] {"n33,h33,d33;53", "b22,b22,b22;21", "h30,h03,h30;99", "d33,d33,d33;99", "b00,b00,b00;00"}) {
            for (int seed : new int[] {0, 7, 291, 123456789, Bounds.MAX}) {
                for (int acts : new int[] {1, 2, 45, 89, 90}) {
                    asDone(hold, false, acts, seed);
                    asDone(hold, true, acts, seed);
                }
            }
        }
        EvenHold still = Bounds.with("b11,b11,b11;00");
        Bounds.due("days(90, 1, 0) where nothing may be", still.days(90, 1, 0), 0);
        Bounds.due("days(90, 1, 1) where nothing may be", still.days(90, 1, 1), 0);
        Bounds.due("days(90, 1, 2) where nothing may be", still.days(90, 1, 2), 6);
    }

    private static void asTheyWouldBe() {
        EvenHold x = Bounds.busy();
        EvenHold y = Bounds.busy();
        int first = x.days(90, 7, 0);
        Bounds.due("days(90, 7, 0) again", x.days(90, 7, 0), first);
        Bounds.due("days(1, 0, 1): MINUTES of these alone", x.days(1, 0, 1), 1);
        Bounds.due("digest() behind it", x.digest(), y.digest());
        Bounds.due("count(4) behind it", x.count(4), 5);
    }

    private static void actsOutside() {
        EvenHold x = Bounds.busy();
        for (int what = 0; what <= 3; what++) {
            Bounds.due("days(1, 0, " + what + ") is taken", x.days(1, 0, what) >= 0 ? 1 : 0, 1);
            Bounds.due("days(90, 0, " + what + ") is taken", x.days(90, 0, what) >= 0 ? 1 : 0, 1);
        }
        for (int acts : Bounds.beyond(1, 90)) Bounds.refused("days(" + acts + ", 0, 0)", Bounds::busy, Bounds.OUTSIDE, y -> y.days(acts, 0, 0));
    }

    private static void seedOutside() {
        EvenHold x = Bounds.busy();
        Bounds.due("days(1, 0, 3) is taken", x.days(1, 0, 3), 12345);
        Bounds.due("days(1, MAX, 3) is taken", x.days(1, Bounds.MAX, 3), next(Bounds.MAX));
        for (int seed : new int[] {-1, -2, -65536, Bounds.MIN, Bounds.MIN + 1}) {
            Bounds.refused("days(1, " + seed + ", 0)", Bounds::busy, Bounds.OUTSIDE, y -> y.days(1, seed, 0));
        }
    }

    private static void whatOutside() {
        for (int what : Bounds.beyond(0, 3)) Bounds.refused("days(1, 0, " + what + ")", Bounds::busy, Bounds.OUTSIDE, x -> x.days(1, 0, what));
    }

    private static void daysWithoutAHold() {
        for (int what = 0; what <= 3; what++) {
            int asked = what;
            Bounds.refused("days(1, 0, " + what + ")", Bounds::bare, Bounds.STATE, x -> x.days(1, 0, asked));
            Bounds.due("days(90, MAX, " + what + ")", new EvenHold().days(90, Bounds.MAX, what), Bounds.STATE);
        }
    }

    private static void daysOutsideFirst() {
        int[][] calls = {{0, 0, 0}, {91, 0, 0}, {1, -1, 0}, {1, Bounds.MIN, 0}, {1, 0, -1}, {1, 0, 4}, {0, -1, 4}};
        for (int[] c : calls) {
            Bounds.refused("days(" + c[0] + ", " + c[1] + ", " + c[2] + ")", Bounds::bare, Bounds.OUTSIDE, x -> x.days(c[0], c[1], c[2]));
        }
    }

    private static void stringSentences() {
        Bounds.sentence("16 how many ACTS", StringBoundsTest::howManyActs);
        Bounds.sentence("16 OUTSIDE: bent (0 to 12)", StringBoundsTest::bentOutside);
        Bounds.sentence("16 FULL (4 at most)", StringBoundsTest::fourAtMost);
        Bounds.sentence("16 of several the first: OUTSIDE, FULL", StringBoundsTest::outsideAheadOfFull);
        Bounds.sentence("16 no STATE is named", StringBoundsTest::withoutAHold);
        Bounds.sentence("17 The STRING is empty: how many ACTS it had", StringBoundsTest::forgets);
        Bounds.sentence("17 The STRING (nothing else)", StringBoundsTest::forgetsTheStringAlone);
    }

    private static void fitsSentences() {
        Bounds.sentence("18 of an empty STRING 1, 0, NONE", StringBoundsTest::emptyString);
        Bounds.sentence("18 by how much she was BENT behind an ACT", StringBoundsTest::oneAct);
        Bounds.sentence("18 one behind the other", StringBoundsTest::oneBehindTheOther);
        Bounds.sentence("18 make all that so", StringBoundsTest::fourActs);
        Bounds.sentence("18 how many unlike ones; the least", StringBoundsTest::unlikeFirsts);
        Bounds.sentence("18 rows of ACTS, that may be done", StringBoundsTest::thatMayBeDone);
        Bounds.sentence("18 that may be done (each of a row)", StringBoundsTest::laterOnesMayToo);
        Bounds.sentence("18 from now on", StringBoundsTest::fromNowOn);
        Bounds.sentence("18 fits() is only told", StringBoundsTest::fitsOnlyTells);
        Bounds.sentence("18 OUTSIDE", StringBoundsTest::fitsOutside);
        Bounds.sentence("18 STATE", StringBoundsTest::fitsWithoutAHold);
        Bounds.sentence("18 of several the first: OUTSIDE, STATE", StringBoundsTest::fitsOutsideFirst);
    }

    private static void daysSentences() {
        Bounds.sentence("19 1103515245 times it and 12345, its rest by 2 to the 31", StringBoundsTest::seedThen);
        Bounds.sentence("19 each by a DRAW of 42: that by 65536 (rounded down), its rest", StringBoundsTest::eachByADraw);
        Bounds.sentence("19 so many ACTS: it is done, if it is one, and may be", StringBoundsTest::doneIfItMayBe);
        Bounds.sentence("19 as they would be", StringBoundsTest::asTheyWouldBe);
        Bounds.sentence("19 OUTSIDE: acts (1 to 90)", StringBoundsTest::actsOutside);
        Bounds.sentence("19 OUTSIDE: seed (0 at least)", StringBoundsTest::seedOutside);
        Bounds.sentence("19 OUTSIDE: what", StringBoundsTest::whatOutside);
        Bounds.sentence("19 STATE", StringBoundsTest::daysWithoutAHold);
        Bounds.sentence("19 of several the first: OUTSIDE, STATE", StringBoundsTest::daysOutsideFirst);
    }

    public static void main(String[] args) {
        stringSentences();
        fitsSentences();
        daysSentences();
        Bounds.end();
    }
}
