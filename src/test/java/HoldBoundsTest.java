/** The boundaries of promises 1 to 9: a new object and the hold. */
public final class HoldBoundsTest {
    private static final String WHOLE = "b01,n23,f33;09";

    // ---- 1 a new object

    private static void noHold() {
        EvenHold x = new EvenHold();
        for (int what = 0; what <= 9; what++) Bounds.due("count(" + what + ")", x.count(what), 0);
        for (int bay = 0; bay < 3; bay++) Bounds.due("bay(" + bay + ", 0)", x.bay(bay, 0), Bounds.UNKNOWN);
        for (int what = 0; what <= 3; what++) Bounds.due("hull(" + what + ")", x.hull(what), Bounds.STATE);
        Bounds.due("fault()", x.fault(), 0);
        Bounds.due("hold()", x.hold(), Bounds.STATE);
        Bounds.due("restore()", x.restore(), Bounds.STATE);
    }

    private static void ofItsOwn() {
        EvenHold busy = Bounds.busy();
        EvenHold x = new EvenHold();
        Bounds.due("count(8) beside another", x.count(8), 0);
        Bounds.due("hull(0) beside another", x.hull(0), Bounds.STATE);
        Bounds.typed(x, "b00,b00,b00;00").hold();
        Bounds.due("count(2) of the other", busy.count(2), 8);
        Bounds.due("restore() of the other", busy.restore(), 1);
    }

    // ---- 2 letter

    private static EvenHold pageOf(int letters) {
        EvenHold x = Bounds.busy();
        x.blank();
        for (int n = 0; n < letters; n++) x.letter(98);
        return x;
    }

    private static void lettersCount() {
        EvenHold x = new EvenHold();
        Bounds.due("letter(1), the least", x.letter(1), 1);
        Bounds.due("letter(126), the greatest", x.letter(126), 2);
        for (int n = 3; n <= 16; n++) Bounds.due("letter(" + n + ") as " + n, x.letter(n), n);
        for (int code = 1; code <= 126; code++) Bounds.due("letter(" + code + ")", new EvenHold().letter(code), 1);
    }

    private static void comesBehind() {
        EvenHold x = Bounds.typed(new EvenHold(), "b0");
        Bounds.due("fault() of b0", x.fault(), 2);
        x.letter('x');
        Bounds.due("fault() of b0x", x.fault(), 2);
        EvenHold y = Bounds.typed(new EvenHold(), "xb0");
        Bounds.due("fault() of xb0", y.fault(), 0);
    }

    private static void codeOutside() {
        for (int code : Bounds.beyond(1, 126)) {
            Bounds.refused("letter(" + code + ")", Bounds::busy, Bounds.OUTSIDE, x -> x.letter(code));
            Bounds.refused("letter(" + code + ") without a hold", Bounds::bare, Bounds.OUTSIDE, x -> x.letter(code));
        }
    }

    private static void aboveSixteen() {
        Bounds.due("letter(98) as 16", pageOf(15).letter(98), 16);
        Bounds.refused("letter(98) as 17", () -> pageOf(16), Bounds.FULL, x -> x.letter(98));
        Bounds.refused("letter(1) as 17", () -> pageOf(16), Bounds.FULL, x -> x.letter(1));
        EvenHold x = pageOf(16);
        for (int n = 0; n < 40; n++) Bounds.due("letter(98), again and again", x.letter(98), Bounds.FULL);
        Bounds.due("count(7)", x.count(7), 16);
        x.blank();
        Bounds.due("letter(98) on an empty page then", x.letter(98), 1);
    }

    private static void outsideAheadOfFull() {
        for (int code : Bounds.beyond(1, 126)) {
            Bounds.refused("letter(" + code + ") as 17", () -> pageOf(16), Bounds.OUTSIDE, x -> x.letter(code));
        }
    }

    // ---- 3 blank

    private static void blanks() {
        for (int letters = 0; letters <= 16; letters++) {
            EvenHold x = pageOf(letters);
            Bounds.due("blank() of " + letters, x.blank(), letters);
            Bounds.due("count(7) then", x.count(7), 0);
            Bounds.due("fault() then", x.fault(), 0);
            Bounds.due("blank() again", x.blank(), 0);
            Bounds.due("letter(98) then", x.letter(98), 1);
        }
    }

    private static void blankLeavesTheHold() {
        EvenHold x = Bounds.busy();
        EvenHold y = Bounds.busy();
        Bounds.due("blank()", x.blank(), 2);
        y.hold();
        for (int what = 0; what <= 9; what++) if (what != 7) Bounds.due("count(" + what + ")", x.count(what), y.count(what));
        Bounds.due("cells", Bounds.cells(x), Bounds.cells(y));
        Bounds.due("restore()", x.restore(), y.restore());
    }

    // ---- 4 fault

    private static void firstFault() {
        Bounds.due("fault() of two faults", Bounds.typed(new EvenHold(), "b04,x00").fault(), 2);
        Bounds.due("fault() of the first letter", Bounds.typed(new EvenHold(), "0b0,x00").fault(), 0);
        Bounds.due("fault() of the last letter", Bounds.typed(new EvenHold(), "b01,n23,f33;0x").fault(), 13);
        Bounds.due("fault() of the last letter, cut off", Bounds.typed(new EvenHold(), "b01,x").fault(), 4);
        Bounds.due("fault() with a letter left out", Bounds.typed(new EvenHold(), "b01n23,f33;09").fault(), 3);
        Bounds.due("fault() with a bay too few", Bounds.typed(new EvenHold(), "b01,n23;09").fault(), 7);
    }

    private static void noFault() {
        for (int letters = 0; letters <= 14; letters++) {
            Bounds.due("fault() of " + letters, Bounds.typed(new EvenHold(), WHOLE.substring(0, letters)).fault(), letters);
        }
    }

    private static void tooLong() {
        for (char c : "0b,; ".toCharArray()) {
            Bounds.due("fault() of 15", Bounds.typed(new EvenHold(), WHOLE + c).fault(), 14);
            Bounds.due("fault() of 16", Bounds.typed(new EvenHold(), WHOLE + c + c).fault(), 14);
        }
    }

    private static void faultChangesNothing() {
        EvenHold x = Bounds.busy();
        EvenHold y = Bounds.busy();
        Bounds.due("fault()", x.fault(), 1);
        Bounds.due("digest() behind it", x.digest(), y.digest());
        EvenHold whole = Bounds.typed(Bounds.bare(), "1,b00,b00;00");
        Bounds.due("fault() of a whole one", whole.fault(), 14);
        Bounds.due("count(8) behind it", whole.count(8), 0);
        Bounds.due("hold() behind it", whole.hold(), 3);
    }

    // ---- 5 hold

    private static EvenHold busyWith(String page) {
        EvenHold x = Bounds.busy();
        x.blank();
        return Bounds.typed(x, page);
    }

    private static void howManyTons() {
        Bounds.due("hold() of none", Bounds.typed(new EvenHold(), "b00,n00,f00;00").hold(), 0);
        Bounds.due("hold() of all", Bounds.typed(new EvenHold(), "d33,h33,b33;00").hold(), 18);
        for (int cell = 0; cell < 6; cell++) {
            int[] cells = new int[6];
            cells[cell] = 3;
            Bounds.due("hold() of three", Bounds.typed(new EvenHold(), Bounds.text("nhd", cells, 9, 9)).hold(), 3);
        }
    }

    private static void anotherIsGone() {
        EvenHold x = busyWith("f10,b02,n30;31");
        Bounds.due("count(6) ahead", x.count(6), 3);
        Bounds.due("hold()", x.hold(), 6);
        int[] want = {3, 1, 6, 0, 0, 0, 0, 0, 2, 1};
        for (int what = 0; what <= 9; what++) Bounds.due("count(" + what + ")", x.count(what), want[what]);
        Bounds.due("cells", Bounds.cells(x), 100230);
        int[] kinds = {2, 0, 1}, taking = {3, 2, 1}, carrying = {2, 2, 2};
        for (int bay = 0; bay < 3; bay++) {
            Bounds.due("KIND", x.bay(bay, 0), kinds[bay]);
            Bounds.due("TAKING", x.bay(bay, 3), taking[bay]);
            Bounds.due("CARRYING", x.bay(bay, 4), carrying[bay]);
        }
        Bounds.due("hull(3)", x.hull(3), 3);
        Bounds.due("fits(0) of an empty string", x.fits(0), 1);
        Bounds.due("restore()", x.restore(), Bounds.STATE);
        Bounds.due("string(1) as the first", x.string(1), 1);
    }

    private static void aheadOfTheFirst() {
        EvenHold x = Bounds.bare();
        x.blank();
        Bounds.typed(x, WHOLE).hold();
        Bounds.due("count(6): a STRING told ahead of the first hold", x.count(6), 0);
        Bounds.due("fits(0)", x.fits(0), 1);
    }

    /** What could be kept of the one that is gone: searches that were done with it. */
    private static void nothingIsLeftOfIt() {
        EvenHold x = Bounds.with("b11,b11,b11;99");
        Bounds.due("soonest(0)", x.soonest(0), 12);
        Bounds.due("holds() of all that can be", x.holds() > 1 ? 1 : 0, 1);
        Bounds.typed(x, "n11,n11,n11;99").hold();
        Bounds.due("soonest(0) of other KINDS", x.soonest(0), 6);
        Bounds.typed(x, "n11,n11,n11;09").hold();
        Bounds.due("holds() of another BEND", x.holds(), 27);
        Bounds.typed(x, "n11,n11,n11;00").hold();
        Bounds.due("holds() of another LIST", x.holds(), 1);
        Bounds.due("most() of another LIST", x.most(), 0);
    }

    private static void notAground() {
        EvenHold x = busyWith(WHOLE);
        Bounds.due("count(5) ahead", x.count(5), 1);
        x.hold();
        Bounds.due("count(5)", x.count(5), 0);
        Bounds.due("ground(false) was", x.ground(false), 0);
        EvenHold y = busyWith("b00,b00,b00;90");
        y.hold();
        Bounds.due("hull(3)", y.hull(3), 9);
    }

    private static void nothingHasSlid() {
        for (int more = 0; more <= 3; more++) {
            for (int less = 0; less <= 3; less++) {
                EvenHold x = Bounds.with(Bounds.text("hhh", new int[] {more, less, less, more, more, less}, 9, 9));
                int pair = 10 * more + less, other = 10 * less + more;
                Bounds.due("cells", Bounds.cells(x), 10000 * pair + 100 * other + pair);
            }
        }
    }

    private static void borneOrNot() {
        EvenHold bent = Bounds.typed(new EvenHold(), "b33,b00,b33;00");
        Bounds.due("hold() of BENT 12, BEND 0", bent.hold(), 12);
        Bounds.due("hull(2)", bent.hull(2), 0);
        EvenHold lists = Bounds.typed(new EvenHold(), "b30,b30,b30;00");
        Bounds.due("hold() of LISTING 9, LIST 0", lists.hold(), 9);
        Bounds.due("hull(2)", lists.hull(2), 0);
    }

    private static void pageIsEmptyThen() {
        EvenHold x = Bounds.typed(new EvenHold(), WHOLE);
        x.hold();
        Bounds.due("count(7)", x.count(7), 0);
        Bounds.due("blank()", x.blank(), 0);
        Bounds.due("hold() again", x.hold(), Bounds.STATE);
        Bounds.due("letter(98)", x.letter(98), 1);
    }

    private static void noneSuch() {
        for (int letters = 0; letters <= 13; letters++) {
            String page = WHOLE.substring(0, letters);
            Bounds.refused("hold() of " + letters, () -> busyWith(page), Bounds.STATE, x -> x.hold());
        }
        Bounds.due("hold() of 14", Bounds.typed(new EvenHold(), WHOLE).hold(), 12);
        for (String page : new String[] {WHOLE + "0", WHOLE + "00", WHOLE + " ", "B01,n23,f33;09", "b01,n23,f34;09", "b01;n23,f33,09"}) {
            Bounds.refused("hold() of " + page, () -> busyWith(page), Bounds.STATE, x -> x.hold());
            Bounds.refused("hold() of " + page + ", the first", () -> Bounds.typed(new EvenHold(), page), Bounds.STATE, x -> x.hold());
        }
    }

    // ---- 6 bay

    private static void ofABay() {
        EvenHold x = Bounds.with("h30,d03,f12;99");
        int[][] want = {{3, 3, 0, 2, 2}, {4, 0, 3, 4, 3}, {2, 1, 2, 3, 2}};
        for (int bay = 0; bay < 3; bay++) {
            for (int what = 0; what <= 4; what++) Bounds.due("bay(" + bay + ", " + what + ")", x.bay(bay, what), want[bay][what]);
        }
        x.act(4);
        Bounds.due("bay(2, 1) now", x.bay(2, 1), 0);
        Bounds.due("bay(0, 1) now", x.bay(0, 1), 2);
        Bounds.due("bay(0, 2) now", x.bay(0, 2), 1);
    }

    private static void bayUnknown() {
        for (int bay : Bounds.beyond(0, 2)) {
            for (int what = 0; what <= 4; what++) Bounds.due("bay(" + bay + ", " + what + ")", Bounds.busy().bay(bay, what), Bounds.UNKNOWN);
            Bounds.refused("bay(" + bay + ", 1)", Bounds::busy, Bounds.UNKNOWN, x -> x.bay(bay, 1));
        }
    }

    private static void bayWithoutAHold() {
        for (int bay = -1; bay <= 3; bay++) {
            for (int what = -1; what <= 5; what++) {
                Bounds.due("bay(" + bay + ", " + what + ")", Bounds.bare().bay(bay, what), Bounds.UNKNOWN);
            }
        }
        Bounds.refused("bay(0, 0)", Bounds::bare, Bounds.UNKNOWN, x -> x.bay(0, 0));
    }

    private static void bayOutside() {
        for (int what : Bounds.beyond(0, 4)) {
            for (int bay = 0; bay < 3; bay++) Bounds.due("bay(" + bay + ", " + what + ")", Bounds.busy().bay(bay, what), Bounds.OUTSIDE);
            Bounds.refused("bay(1, " + what + ")", Bounds::busy, Bounds.OUTSIDE, x -> x.bay(1, what));
        }
    }

    private static void bayUnknownFirst() {
        for (int what : Bounds.beyond(0, 4)) {
            Bounds.due("bay(-1, " + what + ")", Bounds.busy().bay(-1, what), Bounds.UNKNOWN);
            Bounds.due("bay(3, " + what + ")", Bounds.busy().bay(3, what), Bounds.UNKNOWN);
        }
    }

    // ---- 7 as

    private static void itsOwnNumber() {
        EvenHold x = Bounds.with("d00,d00,d00;00");
        for (int bay = 0; bay < 3; bay++) {
            for (int kind = 0; kind <= 4; kind += 2) Bounds.due("as(" + bay + ", " + kind + ")", x.as(bay, kind), bay);
        }
    }

    private static void castFails() {
        EvenHold x = Bounds.with("b00,n00,f00;00");
        int[][] want = {{0, -1, -1, -1, -1}, {1, 1, -1, -1, -1}, {2, -1, 2, -1, -1}};
        for (int bay = 0; bay < 3; bay++) {
            for (int kind = 0; kind <= 4; kind++) Bounds.due("as(" + bay + ", " + kind + ")", x.as(bay, kind), want[bay][kind]);
        }
    }

    private static void asUnknown() {
        for (int bay : Bounds.beyond(0, 2)) {
            for (int kind = 0; kind <= 4; kind++) Bounds.due("as(" + bay + ", " + kind + ")", Bounds.busy().as(bay, kind), Bounds.UNKNOWN);
            Bounds.refused("as(" + bay + ", 0)", Bounds::busy, Bounds.UNKNOWN, x -> x.as(bay, 0));
        }
        for (int bay = 0; bay < 3; bay++) {
            for (int kind = 0; kind <= 4; kind++) Bounds.due("as(" + bay + ", " + kind + ") without a hold", Bounds.bare().as(bay, kind), Bounds.UNKNOWN);
        }
        Bounds.refused("as(0, 0) without a hold", Bounds::bare, Bounds.UNKNOWN, x -> x.as(0, 0));
    }

    private static void asOutside() {
        for (int kind : Bounds.beyond(0, 4)) {
            for (int bay = 0; bay < 3; bay++) Bounds.due("as(" + bay + ", " + kind + ")", Bounds.busy().as(bay, kind), Bounds.OUTSIDE);
            Bounds.refused("as(2, " + kind + ")", Bounds::busy, Bounds.OUTSIDE, x -> x.as(2, kind));
        }
    }

    private static void asUnknownFirst() {
        for (int kind : Bounds.beyond(0, 4)) {
            Bounds.due("as(-1, " + kind + ")", Bounds.busy().as(-1, kind), Bounds.UNKNOWN);
            Bounds.due("as(3, " + kind + ")", Bounds.busy().as(3, kind), Bounds.UNKNOWN);
            Bounds.due("as(0, " + kind + ") without a hold", Bounds.bare().as(0, kind), Bounds.UNKNOWN);
        }
    }

    // ---- 8 ground

    private static void whetherSheWas() {
        EvenHold x = Bounds.with("b00,b00,b00;50");
        boolean was = false;
        for (boolean is : new boolean[] {false, true, true, false, false, true, false}) {
            Bounds.due("ground(" + is + ")", x.ground(is), was ? 1 : 0);
            Bounds.due("count(5) then", x.count(5), is ? 1 : 0);
            Bounds.due("hull(3) then", x.hull(3), is ? 2 : 5);
            was = is;
        }
    }

    private static void groundLeavesTons() {
        EvenHold x = Bounds.with("h30,b00,b33;99");
        x.ground(true);
        Bounds.due("cells: nothing slides by it", Bounds.cells(x), 300033);
        Bounds.due("hull(2): taken whether she bears it or not", x.hull(2), 0);
        Bounds.due("count(4)", x.count(4), 0);
    }

    private static void groundWithoutAHold() {
        Bounds.refused("ground(true)", Bounds::bare, Bounds.STATE, x -> x.ground(true));
        Bounds.refused("ground(false)", Bounds::bare, Bounds.STATE, x -> x.ground(false));
        EvenHold x = new EvenHold();
        x.ground(true);
        Bounds.typed(x, WHOLE).hold();
        Bounds.due("count(5) with a hold then", x.count(5), 0);
    }

    // ---- 9 hull

    private static void whatSheIsNow() {
        EvenHold x = Bounds.with("b31,b10,b02;45");
        int[] read = {4, 1, 1, 4}, aground = {4, 1, 0, 2}, behind = {3, 2, 1, 4};
        for (int what = 0; what <= 3; what++) Bounds.due("hull(" + what + ")", x.hull(what), read[what]);
        x.ground(true);
        for (int what = 0; what <= 3; what++) Bounds.due("hull(" + what + ") aground", x.hull(what), aground[what]);
        x.ground(false);
        x.act(5);
        for (int what = 0; what <= 3; what++) Bounds.due("hull(" + what + ") behind act(5)", x.hull(what), behind[what]);
    }

    private static void hullOutside() {
        for (int what : Bounds.beyond(0, 3)) Bounds.refused("hull(" + what + ")", Bounds::busy, Bounds.OUTSIDE, x -> x.hull(what));
    }

    private static void hullWithoutAHold() {
        for (int what = 0; what <= 3; what++) {
            int asked = what;
            Bounds.refused("hull(" + what + ")", Bounds::bare, Bounds.STATE, x -> x.hull(asked));
        }
    }

    private static void hullOutsideFirst() {
        for (int what : Bounds.beyond(0, 3)) Bounds.refused("hull(" + what + ")", Bounds::bare, Bounds.OUTSIDE, x -> x.hull(what));
    }

    private static void pageSentences() {
        Bounds.sentence("1 No HOLD", HoldBoundsTest::noHold);
        Bounds.sentence("1 A new object (of its own)", HoldBoundsTest::ofItsOwn);
        Bounds.sentence("2 how many THE PAGE has", HoldBoundsTest::lettersCount);
        Bounds.sentence("2 A letter comes behind THE PAGE", HoldBoundsTest::comesBehind);
        Bounds.sentence("2 OUTSIDE: code (1 to 126)", HoldBoundsTest::codeOutside);
        Bounds.sentence("2 FULL: above 16", HoldBoundsTest::aboveSixteen);
        Bounds.sentence("2 of several the first: OUTSIDE, FULL", HoldBoundsTest::outsideAheadOfFull);
        Bounds.sentence("3 THE PAGE is empty: how many letters it had", HoldBoundsTest::blanks);
        Bounds.sentence("3 THE PAGE alone", HoldBoundsTest::blankLeavesTheHold);
        Bounds.sentence("4 the first letter of THE PAGE that no HOLD has there, behind those ahead of it", HoldBoundsTest::firstFault);
        Bounds.sentence("4 how many letters it has, if there is none", HoldBoundsTest::noFault);
        Bounds.sentence("4 no HOLD has there (longer than any)", HoldBoundsTest::tooLong);
        Bounds.sentence("4 fault() is only told", HoldBoundsTest::faultChangesNothing);
    }

    private static void holdSentences() {
        Bounds.sentence("5 how many tons", HoldBoundsTest::howManyTons);
        Bounds.sentence("5 another one is gone, with all that was", HoldBoundsTest::anotherIsGone);
        Bounds.sentence("5 with all that was (ahead of the first one, too)", HoldBoundsTest::aheadOfTheFirst);
        Bounds.sentence("5 gone: nothing that was reckoned of it", HoldBoundsTest::nothingIsLeftOfIt);
        Bounds.sentence("5 she is not AGROUND", HoldBoundsTest::notAground);
        Bounds.sentence("5 nothing has slid yet", HoldBoundsTest::nothingHasSlid);
        Bounds.sentence("5 whether she BEARS it or not", HoldBoundsTest::borneOrNot);
        Bounds.sentence("5 THE PAGE is empty then", HoldBoundsTest::pageIsEmptyThen);
        Bounds.sentence("5 STATE: it is none", HoldBoundsTest::noneSuch);
        Bounds.sentence("6 what = 0 KIND, 1 tons LEFT, 2 RIGHT, 3 MINUTES of TAKING, 4 of CARRYING out of it", HoldBoundsTest::ofABay);
        Bounds.sentence("6 UNKNOWN", HoldBoundsTest::bayUnknown);
        Bounds.sentence("6 (also without a HOLD)", HoldBoundsTest::bayWithoutAHold);
        Bounds.sentence("6 OUTSIDE", HoldBoundsTest::bayOutside);
        Bounds.sentence("6 of several the first: UNKNOWN, OUTSIDE", HoldBoundsTest::bayUnknownFirst);
        Bounds.sentence("7 its own number, not that of the KIND", HoldBoundsTest::itsOwnNumber);
        Bounds.sentence("7 NONE: it is none such (the cast fails)", HoldBoundsTest::castFails);
        Bounds.sentence("7 UNKNOWN", HoldBoundsTest::asUnknown);
        Bounds.sentence("7 OUTSIDE", HoldBoundsTest::asOutside);
        Bounds.sentence("7 of several the first: UNKNOWN, OUTSIDE", HoldBoundsTest::asUnknownFirst);
        Bounds.sentence("8 whether she was (1, 0)", HoldBoundsTest::whetherSheWas);
        Bounds.sentence("8 She is AGROUND, or not (nothing else)", HoldBoundsTest::groundLeavesTons);
        Bounds.sentence("8 STATE: no HOLD", HoldBoundsTest::groundWithoutAHold);
        Bounds.sentence("9 0 BENT, 1 LISTING, 2 whether she BEARS it (1, 0), 3 by how much she may be BENT now", HoldBoundsTest::whatSheIsNow);
        Bounds.sentence("9 OUTSIDE", HoldBoundsTest::hullOutside);
        Bounds.sentence("9 STATE: no HOLD", HoldBoundsTest::hullWithoutAHold);
        Bounds.sentence("9 of several the first: OUTSIDE, STATE", HoldBoundsTest::hullOutsideFirst);
    }

    public static void main(String[] args) {
        pageSentences();
        holdSentences();
        Bounds.end();
    }
}
