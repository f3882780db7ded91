import java.math.BigInteger;
import java.util.ArrayList;
import java.util.List;

/** The boundaries of promises 20 to 23: what is told of all. */
public final class AllBoundsTest {

    // ---- 20 image

    private static void minutesNow() {
        EvenHold x = Bounds.with("d11,b11,b11;99");
        Bounds.due("image() at 0", x.image(), 0);
        x.act(0);
        Bounds.due("image() at 4", x.image(), 4);
        Bounds.due("image() again", x.image(), 4);
        EvenHold none = Bounds.with("b00,b00,b00;00");
        Bounds.due("image() of no tons", none.image(), 0);
        Bounds.due("restore() of no tons", none.restore(), 0);
    }

    private static void oneTheLatest() {
        EvenHold x = Bounds.with("b11,b11,b11;99");
        x.image();
        x.act(0);
        x.image();
        x.act(1);
        Bounds.due("restore()", x.restore(), 2);
        Bounds.due("restore() again: the same, none behind it", x.restore(), 2);
        Bounds.due("cells", Bounds.cells(x), 11111);
    }

    private static void imageOnlyKeeps() {
        EvenHold x = Bounds.busy();
        EvenHold y = Bounds.busy();
        x.image();
        Bounds.due("digest()", x.digest(), y.digest());
        Bounds.due("fits(0)", x.fits(0), y.fits(0));
    }

    private static void imageWithoutAHold() {
        Bounds.refused("image()", Bounds::bare, Bounds.STATE, x -> x.image());
        EvenHold x = new EvenHold();
        x.image();
        Bounds.due("restore() behind it", x.restore(), Bounds.STATE);
        Bounds.typed(x, "b00,b00,b00;00").hold();
        Bounds.due("restore() behind it, with a hold", x.restore(), Bounds.STATE);
    }

    // ---- 21 restore

    private static EvenHold kept() {
        EvenHold x = Bounds.with("d21,h12,b11;99");
        x.act(0);
        x.act(12);
        x.string(2);
        x.string(3);
        x.image();
        return x;
    }

    private static void keepsHowTonsLie() {
        EvenHold x = kept();
        int cells = Bounds.cells(x);
        for (int act : new int[] {2, 3, 4, 5}) x.act(act);
        Bounds.due("other cells", Bounds.cells(x) != cells ? 1 : 0, 1);
        x.restore();
        Bounds.due("cells", Bounds.cells(x), cells);
        Bounds.due("count(2)", x.count(2), 7);
    }

    private static void keepsAground() {
        EvenHold x = kept();
        x.ground(true);
        x.restore();
        Bounds.due("count(5): afloat as kept", x.count(5), 0);
        Bounds.due("hull(3): afloat as kept", x.hull(3), 9);
        x.ground(true);
        x.image();
        x.ground(false);
        x.restore();
        Bounds.due("count(5): aground as kept", x.count(5), 1);
        Bounds.due("hull(3): aground as kept", x.hull(3), 4);
    }

    private static void keepsMinutes() {
        EvenHold x = kept();
        x.act(4);
        Bounds.due("restore()", x.restore(), 7);
        Bounds.due("count(4)", x.count(4), 7);
        Bounds.due("act(4) goes on from it", x.act(4), 9);
    }

    private static void keepsTonsOut() {
        EvenHold x = kept();
        x.act(4);
        x.act(5);
        Bounds.due("count(3) ahead", x.count(3), 3);
        x.restore();
        Bounds.due("count(3)", x.count(3), 1);
        x.act(4);
        Bounds.due("count(3) goes on from it", x.count(3), 2);
    }

    private static void keepsTheString() {
        for (int after = 0; after <= 4; after++) {
            EvenHold x = kept();
            int rows = x.fits(0), firsts = x.fits(1), least = x.fits(2);
            Bounds.due("rows that can be", rows > 0 ? 1 : 0, 1);
            x.forget();
            for (int n = 0; n < after; n++) x.string(9);
            x.restore();
            Bounds.due("count(6)", x.count(6), 2);
            Bounds.due("fits(0)", x.fits(0), rows);
            Bounds.due("fits(1)", x.fits(1), firsts);
            Bounds.due("fits(2)", x.fits(2), least);
            Bounds.due("string(0) as the third", x.string(0), 3);
        }
        EvenHold x = kept();
        x.forget();
        x.image();
        x.string(1);
        x.restore();
        Bounds.due("count(6): empty as kept", x.count(6), 0);
        for (int n = 1; n <= 4; n++) x.string(n);
        x.image();
        x.forget();
        x.restore();
        Bounds.due("count(6): full as kept", x.count(6), 4);
        Bounds.due("string(1): full as kept", x.string(1), Bounds.FULL);
    }

    /** The IMAGE is a thing of its own: what is done behind image() or restore() is not done in it. */
    private static void keepsItWhole() {
        EvenHold x = kept();
        long then = x.digest();
        for (int twice = 0; twice < 3; twice++) {
            x.act(4);
            x.act(5);
            x.ground(true);
            x.forget();
            x.string(9);
            Bounds.due("digest() is another", x.digest() != then ? 1 : 0, 1);
            Bounds.due("restore()", x.restore(), 7);
            Bounds.due("digest()", x.digest(), then);
        }
    }

    private static void doesNotKeepTheRest() {
        EvenHold x = kept();
        Bounds.typed(x, "b0");
        x.leastBend();
        x.restore();
        Bounds.due("count(7), letters of THE PAGE", x.count(7), 2);
        Bounds.due("fault()", x.fault(), 2);
        Bounds.due("count(9), leastBend()", x.count(9), 1);
        Bounds.due("count(8), reads", x.count(8), 1);
        x.blank();
        x.restore();
        Bounds.due("count(7) of an emptied page", x.count(7), 0);
    }

    private static void noneWasKept() {
        Bounds.refused("restore() of a new object", EvenHold::new, Bounds.STATE, x -> x.restore());
        Bounds.refused("restore() without a hold", Bounds::bare, Bounds.STATE, x -> x.restore());
        Bounds.refused("restore() with a hold", () -> Bounds.with("b11,h20,b11;99"), Bounds.STATE, x -> x.restore());
    }

    private static EvenHold readSince(String text) {
        EvenHold x = kept();
        Bounds.typed(x, text).hold();
        x.act(4);
        x.string(1);
        return x;
    }

    private static void aHoldWasReadSince() {
        Bounds.refused("restore() behind another text", () -> readSince("b11,b11,b11;99"), Bounds.STATE, x -> x.restore());
        Bounds.refused("restore() behind the same text", () -> readSince("d21,h12,b11;99"), Bounds.STATE, x -> x.restore());
        EvenHold x = readSince("d21,h12,b11;99");
        Bounds.due("image() of the new one", x.image(), 2);
        x.act(5);
        Bounds.due("restore() of the new one", x.restore(), 2);
    }

    private static void aRefusedReadIsNone() {
        EvenHold x = kept();
        x.act(4);
        Bounds.typed(x, "b11,b11,b11;9").hold();
        Bounds.due("restore()", x.restore(), 7);
        x.blank();
        x.act(4);
        Bounds.due("hold() of an empty page", x.hold(), Bounds.STATE);
        Bounds.due("restore() behind it", x.restore(), 7);
    }

    // ---- 22 count

    private static void eachCount() {
        EvenHold x = Bounds.busy();
        int[] want = {9, 7, 8, 2, 5, 1, 3, 2, 1, 1};
        for (int what = 0; what <= 9; what++) Bounds.due("count(" + what + ")", x.count(what), want[what]);
        EvenHold y = Bounds.with("b00,b00,b00;83");
        int[] read = {8, 3, 0, 0, 0, 0, 0, 0, 1, 0};
        for (int what = 0; what <= 9; what++) Bounds.due("count(" + what + ") as read", y.count(what), read[what]);
    }

    private static void zeroWithoutAHold() {
        EvenHold x = Bounds.bare();
        int[] want = {0, 0, 0, 0, 0, 0, 1, 2, 0, 0};
        for (int what = 0; what <= 9; what++) Bounds.due("count(" + what + ")", x.count(what), want[what]);
    }

    private static void inAndOut() {
        EvenHold x = Bounds.with("b33,b33,b33;99");
        for (int out = 0; out < 18; out++) {
            Bounds.due("count(2) with " + out + " out", x.count(2), 18 - out);
            Bounds.due("count(3) with " + out + " out", x.count(3), out);
            x.act(x.soonest(1));
        }
        Bounds.due("count(2) of none", x.count(2), 0);
        Bounds.due("count(3) of all", x.count(3), 18);
        Bounds.due("count(4) of all", x.count(4), 36);
        EvenHold slides = Bounds.with("h30,b00,b11;99");
        slides.act(4);
        Bounds.due("count(2) behind sliding", slides.count(2), 4);
        Bounds.due("count(3) behind sliding", slides.count(3), 1);
    }

    private static void howOften() {
        EvenHold x = new EvenHold();
        for (int n = 1; n <= 5; n++) {
            Bounds.typed(x, "b00,b00,b00;0").hold();
            Bounds.due("count(8) behind a refused read", x.count(8), n - 1);
            x.letter('0');
            x.hold();
            Bounds.due("count(8)", x.count(8), n);
        }
    }

    private static void countOutside() {
        for (int what : Bounds.beyond(0, 9)) {
            Bounds.refused("count(" + what + ")", Bounds::busy, Bounds.OUTSIDE, x -> x.count(what));
            Bounds.refused("count(" + what + ") without a hold", Bounds::bare, Bounds.OUTSIDE, x -> x.count(what));
        }
    }

    // ---- 23 digest

    /** By unbounded numbers, cut off to a long at the very end; the letters of THE PAGE are given. */
    private static long mixed(EvenHold x, boolean held, String page) {
        List<Integer> all = new ArrayList<>();
        if (held) {
            for (int bay = 0; bay < 3; bay++) for (int what = 0; what <= 4; what++) all.add(x.bay(bay, what));
            for (int what = 0; what <= 3; what++) all.add(x.hull(what));
            for (int number = 0; number < 42; number++) if (Bounds.acts().contains(number)) all.add(x.may(number));
            for (int what = 0; what <= 1; what++) all.add(x.soonest(what));
            all.add(x.most());
            all.add(x.holds());
            for (int what = 0; what <= 2; what++) all.add(x.fits(what));
        }
        for (char c : page.toCharArray()) all.add((int) c);
        for (int what = 0; what <= 9; what++) all.add(x.count(what));
        BigInteger h = BigInteger.valueOf(829);
        for (int number : all) h = h.multiply(BigInteger.valueOf(31)).add(BigInteger.valueOf(number));
        return h.longValue();
    }

    private static void digestWithoutAHold() {
        EvenHold x = new EvenHold();
        long h = 829;
        for (int n = 0; n < 10; n++) h *= 31;
        Bounds.due("digest() of a new object", x.digest(), h);
        Bounds.due("digest() without a hold", Bounds.bare().digest(), mixed(Bounds.bare(), false, "n2"));
    }

    private static void digestWithAHold() {
        Bounds.due("digest() in the midst", Bounds.busy().digest(), mixed(Bounds.busy(), true, "b7"));
        for (String hold : new String[] {"b00,b00,b00;00", "d33,d33,d33;99", "b11,b11,b11;00", "n21,h12,d03;53", "f02,b30,h13;41"}) {
            Bounds.due("digest() of " + hold, Bounds.with(hold).digest(), mixed(Bounds.with(hold), true, ""));
        }
    }

    private static void digestWraps() {
        // 829 and 26 numbers are far beyond a long; the rows of two pages unlike in the first letter alone are told apart yet.
        String page = "~~~~~~~~~~~~~~~~";
        EvenHold x = Bounds.typed(new EvenHold(), page);
        Bounds.due("digest() of a full page", x.digest(), mixed(x, false, page));
        EvenHold y = Bounds.typed(new EvenHold(), "}" + page.substring(1));
        long power = 1;
        for (int n = 0; n < 25; n++) power *= 31;
        Bounds.due("digest() with a first letter less by 1", x.digest() - y.digest(), power);
        // NONE is mixed as -1.
        EvenHold never = Bounds.with("b11,b11,b11;00");
        never.string(1);
        Bounds.due("soonest(0)", never.soonest(0), Bounds.NONE);
        Bounds.due("fits(2)", never.fits(2), Bounds.NONE);
        Bounds.due("digest() with NONE", never.digest(), mixed(never, true, ""));
    }

    private static void lettersInOrder() {
        EvenHold x = Bounds.typed(new EvenHold(), "bn");
        EvenHold y = Bounds.typed(new EvenHold(), "nb");
        Bounds.due("digest() of bn", x.digest(), mixed(x, false, "bn"));
        Bounds.due("digest() of nb", y.digest(), mixed(y, false, "nb"));
        x.blank();
        Bounds.due("digest() of an emptied page", x.digest(), new EvenHold().digest());
    }

    private static void digestOfNow() {
        EvenHold x = Bounds.with("n21,h12,d03;53");
        for (int n = 0; n < 3; n++) {
            Bounds.due("digest() behind " + n + " acts", x.digest(), mixed(x, true, ""));
            x.act(x.soonest(1));
        }
        x.ground(true);
        Bounds.due("digest() aground", x.digest(), mixed(x, true, ""));
    }

    private static void digestOnlyTells() {
        EvenHold x = Bounds.busy();
        long first = x.digest();
        Bounds.due("digest() again", x.digest(), first);
        List<Long> got = Bounds.everything(x), due = Bounds.everything(Bounds.busy());
        for (int i = 0; i < due.size(); i++) Bounds.due("answer " + i + " behind it", got.get(i), due.get(i));
    }

    private static void imageSentences() {
        Bounds.sentence("20 An IMAGE is kept: MINUTES", AllBoundsTest::minutesNow);
        Bounds.sentence("20 (one; the latest)", AllBoundsTest::oneTheLatest);
        Bounds.sentence("20 An IMAGE is kept (nothing else)", AllBoundsTest::imageOnlyKeeps);
        Bounds.sentence("20 STATE: no HOLD", AllBoundsTest::imageWithoutAHold);
        Bounds.sentence("21 An IMAGE keeps how tons lie", AllBoundsTest::keepsHowTonsLie);
        Bounds.sentence("21 An IMAGE keeps whether she is AGROUND", AllBoundsTest::keepsAground);
        Bounds.sentence("21 An IMAGE keeps MINUTES", AllBoundsTest::keepsMinutes);
        Bounds.sentence("21 An IMAGE keeps tons that are out", AllBoundsTest::keepsTonsOut);
        Bounds.sentence("21 An IMAGE keeps the STRING", AllBoundsTest::keepsTheString);
        Bounds.sentence("21 It goes on from the IMAGE", AllBoundsTest::keepsItWhole);
        Bounds.sentence("21 An IMAGE keeps (not THE PAGE, nor how often)", AllBoundsTest::doesNotKeepTheRest);
        Bounds.sentence("21 STATE: none was kept", AllBoundsTest::noneWasKept);
        Bounds.sentence("21 STATE: a HOLD was read since (of the same text, too)", AllBoundsTest::aHoldWasReadSince);
        Bounds.sentence("21 a HOLD was read since (not one that was refused)", AllBoundsTest::aRefusedReadIsNone);
    }

    private static void countSentences() {
        Bounds.sentence("22 How many: 0 to 9", AllBoundsTest::eachCount);
        Bounds.sentence("22 (0: no HOLD)", AllBoundsTest::zeroWithoutAHold);
        Bounds.sentence("22 2 tons that lie there, 3 tons that are out", AllBoundsTest::inAndOut);
        Bounds.sentence("22 8 how often a HOLD was read", AllBoundsTest::howOften);
        Bounds.sentence("22 OUTSIDE", AllBoundsTest::countOutside);
    }

    private static void digestSentences() {
        Bounds.sentence("23 with a HOLD (else only THE PAGE and count())", AllBoundsTest::digestWithoutAHold);
        Bounds.sentence("23 for each of these numbers, in order, 31 times h, and it", AllBoundsTest::digestWithAHold);
        Bounds.sentence("23 as longs, wrapping", AllBoundsTest::digestWraps);
        Bounds.sentence("23 letters of THE PAGE", AllBoundsTest::lettersInOrder);
        Bounds.sentence("23 what it tells now", AllBoundsTest::digestOfNow);
        Bounds.sentence("23 digest() is only told", AllBoundsTest::digestOnlyTells);
    }

    public static void main(String[] args) {
        imageSentences();
        countSentences();
        digestSentences();
        Bounds.end();
    }
}
