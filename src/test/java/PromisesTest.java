/** Each promise of the document: ordinary calls, its edges, its refusals and that a refused call changes nothing. */
public final class PromisesTest {
    private static final int NONE = -1, UNKNOWN = -101, OUTSIDE = -102, STATE = -103, FULL = -104;
    private static final int MIN = Integer.MIN_VALUE, MAX = Integer.MAX_VALUE;
    private static int wrong = 0;
    private static int promise = 0;

    private static void due(String what, long got, long want) {
        if (got != want) {
            wrong++;
            System.out.println("promise " + promise + ": " + what + " answered " + got + ", due is " + want);
        }
    }

    private static EvenHold typed(EvenHold x, String text) {
        for (char c : text.toCharArray()) x.letter(c);
        return x;
    }

    private static EvenHold with(String hold) {
        EvenHold x = typed(new EvenHold(), hold);
        due("hold() of " + hold, x.hold() >= 0 ? 1 : 0, 1);
        return x;
    }

    private static long counts(EvenHold x) {
        long h = 0;
        for (int what = 0; what <= 9; what++) h = 37 * h + x.count(what);
        return h;
    }

    /** A refused call: its answer, and that what is told of all is as it was. */
    private interface Call { long on(EvenHold x); }

    private static void refused(String what, EvenHold x, long want, Call call) {
        long before = x.digest();
        long countsBefore = counts(x);
        due(what, call.on(x), want);
        due(what + ", digest behind it", x.digest(), before);
        due(what + ", counts behind it", counts(x), countsBefore);
    }

    private static void p1newObject() {
        promise = 1;
        EvenHold x = new EvenHold();
        for (int what = 0; what <= 9; what++) due("count(" + what + ")", x.count(what), 0);
        due("bay(0, 0)", x.bay(0, 0), UNKNOWN);
        due("fault()", x.fault(), 0);
        due("ground(true)", x.ground(true), STATE);
        due("restore()", x.restore(), STATE);
        due("NONE", EvenHold.NONE, -1);
        due("UNKNOWN", EvenHold.UNKNOWN, -101);
        due("OUTSIDE", EvenHold.OUTSIDE, -102);
        due("STATE", EvenHold.STATE, -103);
        due("FULL", EvenHold.FULL, -104);
    }

    private static void p2letter() {
        promise = 2;
        EvenHold x = new EvenHold();
        for (int code : new int[] {0, -1, 127, 128, MIN, MAX, 98 + 65536, 98 - 65536}) {
            refused("letter(" + code + ")", x, OUTSIDE, y -> y.letter(code));
        }
        due("letter(1)", x.letter(1), 1);
        due("letter(126)", x.letter(126), 2);
        for (int n = 3; n <= 16; n++) due("letter(98) as " + n, x.letter(98), n);
        refused("letter(98) as 17", x, FULL, y -> y.letter(98));
        refused("letter(0) on a full page", x, OUTSIDE, y -> y.letter(0));
        due("count(7)", x.count(7), 16);
    }

    private static void p3blank() {
        promise = 3;
        EvenHold x = new EvenHold();
        due("blank()", x.blank(), 0);
        typed(x, "b1");
        due("blank()", x.blank(), 2);
        due("blank() again", x.blank(), 0);
        due("count(7)", x.count(7), 0);
        typed(x, "n");
        due("fault()", x.fault(), 1);
        typed(x, "0000000000000000");
        due("blank() of a full page", x.blank(), 16);
    }

    private static void p4fault() {
        promise = 4;
        String whole = "b01,n23,f33;09";
        for (int n = 0; n <= 14; n++) due("fault() of " + n, typed(new EvenHold(), whole.substring(0, n)).fault(), n);
        due("fault() of 15", typed(new EvenHold(), whole + "0").fault(), 14);
        due("fault() of 16", typed(new EvenHold(), whole + "00").fault(), 14);
        for (int place = 0; place < 14; place++) {
            String good = place == 3 || place == 7 ? "," : place == 11 ? ";" : place % 4 == 0 && place < 12 ? "bnfhd" : place >= 12 ? "0123456789" : "0123";
            for (char c = 1; c <= 126; c++) {
                String page = whole.substring(0, place) + c + whole.substring(place + 1);
                due("fault() of " + page, typed(new EvenHold(), page).fault(), good.indexOf(c) >= 0 ? 14 : place);
            }
        }
        due("fault() of two", typed(new EvenHold(), "b04,x00").fault(), 2);
    }

    private static void p5hold() {
        promise = 5;
        EvenHold x = typed(new EvenHold(), "n21,h12,d03;53");
        due("hold()", x.hold(), 9);
        due("count(7)", x.count(7), 0);
        due("count(0)", x.count(0), 5);
        due("count(1)", x.count(1), 3);
        due("count(2)", x.count(2), 9);
        due("count(8)", x.count(8), 1);
        refused("hold() of an empty page", x, STATE, y -> y.hold());
        x.act(18);
        x.act(0);
        x.ground(true);
        x.string(1);
        x.image();
        x.leastBend();
        typed(x, "b30,h30,b00;0");
        refused("hold() of 13", x, STATE, y -> y.hold());
        due("count(7) behind it", x.count(7), 13);
        x.letter('0');
        x.letter('0');
        refused("hold() of 15", x, STATE, y -> y.hold());
        x.blank();
        typed(x, "b30,h40,b00;00");
        refused("hold() with a fault", x, STATE, y -> y.hold());
        x.blank();
        typed(x, "b30,h30,b00;00");
        due("hold() again", x.hold(), 6);
        due("nothing has slid: left", x.bay(1, 1), 3);
        due("nothing has slid: right", x.bay(1, 2), 0);
        due("she need not bear it", x.hull(2), 0);
        due("count(3)", x.count(3), 0);
        due("count(4)", x.count(4), 0);
        due("count(5)", x.count(5), 0);
        due("count(6)", x.count(6), 0);
        due("count(8)", x.count(8), 2);
        due("count(9)", x.count(9), 1);
        due("restore()", x.restore(), STATE);
        due("hold() of none", with("b00,b00,b00;00").count(2), 0);
        due("hold() of all", with("d33,d33,d33;99").count(2), 18);
        EvenHold early = new EvenHold();
        early.string(3);
        typed(early, "b00,b00,b00;00").hold();
        due("count(6), told ahead of the hold", early.count(6), 0);
    }

    private static void p6bay() {
        promise = 6;
        EvenHold none = new EvenHold();
        due("bay(0, 0) without a hold", none.bay(0, 0), UNKNOWN);
        due("bay(0, 9) without a hold", none.bay(0, 9), UNKNOWN);
        int[][] told = {{0, 1, 2, 2, 2}, {1, 3, 0, 1, 2}, {2, 0, 3, 3, 2}, {3, 2, 2, 2, 2}, {4, 1, 1, 4, 3}};
        EvenHold x = with("b12,n30,f03;99");
        EvenHold z = with("h22,d11,b00;99");
        for (int what = 0; what <= 4; what++) {
            for (int kind = 0; kind <= 4; kind++) {
                due("bay of kind " + kind + ", " + what, (kind < 3 ? x : z).bay(kind % 3, what), told[kind][what]);
            }
        }
        for (int bay : new int[] {-1, 3, MIN, MAX}) {
            refused("bay(" + bay + ", 0)", x, UNKNOWN, y -> y.bay(bay, 0));
            refused("bay(" + bay + ", 5)", x, UNKNOWN, y -> y.bay(bay, 5));
        }
        for (int what : new int[] {-1, 5, MIN, MAX}) refused("bay(1, " + what + ")", x, OUTSIDE, y -> y.bay(1, what));
    }

    private static void p7as() {
        promise = 7;
        due("as(0, 0) without a hold", new EvenHold().as(0, 0), UNKNOWN);
        String kinds = "bnfhd";
        for (int own = 0; own <= 4; own++) {
            EvenHold x = with("b00,b00," + kinds.charAt(own) + "00;00");
            for (int kind = 0; kind <= 4; kind++) {
                boolean such = kind == 0 || kind == own || (own == 4 && kind == 2);
                due("as(2, " + kind + ") of " + kinds.charAt(own), x.as(2, kind), such ? 2 : NONE);
            }
        }
        EvenHold x = with("d00,f00,b00;00");
        due("as(0, 2)", x.as(0, 2), 0);
        due("as(1, 2)", x.as(1, 2), 1);
        due("as(1, 4)", x.as(1, 4), NONE);
        for (int bay : new int[] {-1, 3, MIN, MAX}) refused("as(" + bay + ", 9)", x, UNKNOWN, y -> y.as(bay, 9));
        for (int kind : new int[] {-1, 5, MIN, MAX}) refused("as(0, " + kind + ")", x, OUTSIDE, y -> y.as(0, kind));
    }

    private static void p8ground() {
        promise = 8;
        EvenHold none = new EvenHold();
        refused("ground(true) without a hold", none, STATE, y -> y.ground(true));
        refused("ground(false) without a hold", none, STATE, y -> y.ground(false));
        EvenHold x = with("b00,b00,b00;70");
        due("ground(false)", x.ground(false), 0);
        due("ground(true)", x.ground(true), 0);
        due("ground(true) again", x.ground(true), 1);
        due("count(5)", x.count(5), 1);
        due("hull(3)", x.hull(3), 3);
        due("ground(false) then", x.ground(false), 1);
        due("count(5) then", x.count(5), 0);
        due("hull(3) then", x.hull(3), 7);
    }

    private static void p9hull() {
        promise = 9;
        EvenHold none = new EvenHold();
        due("hull(0) without a hold", none.hull(0), STATE);
        due("hull(4) without a hold", none.hull(4), OUTSIDE);
        EvenHold x = with("b31,b10,b02;45");
        due("hull(0)", x.hull(0), 4);
        due("hull(1)", x.hull(1), 1);
        due("hull(2)", x.hull(2), 1);
        due("hull(3)", x.hull(3), 4);
        x.ground(true);
        due("hull(2) aground", x.hull(2), 0);
        due("hull(3) aground", x.hull(3), 2);
        EvenHold hog = with("b00,b33,b00;90");
        due("hull(0) of a full middle", hog.hull(0), 12);
        due("hull(2) of a full middle", hog.hull(2), 0);
        due("hull(0) of full ends", with("b33,b00,b33;90").hull(0), 12);
        due("hull(1) of full right sides", with("b03,b03,b03;99").hull(1), 9);
        due("hull(2) of full right sides", with("b03,b03,b03;99").hull(2), 1);
        due("hull(2) with less list", with("b03,b03,b03;98").hull(2), 0);
        for (int what : new int[] {-1, 4, MIN, MAX}) refused("hull(" + what + ")", x, OUTSIDE, y -> y.hull(what));
    }

    private static final String ACTS = " 0 1 2 3 4 5 7 8 12 15 18 21 22 25 26 29 32 35 39 40 ";

    private static void p10may() {
        promise = 10;
        EvenHold none = new EvenHold();
        due("may(0) without a hold", none.may(0), UNKNOWN);
        due("may(6) without a hold", none.may(6), UNKNOWN);
        EvenHold mid = with("b11,b11,b11;99");
        EvenHold full = with("b33,b33,b33;99");
        EvenHold empty = with("b00,b00,b00;99");
        for (int n = 0; n < 42; n++) {
            boolean is = ACTS.contains(" " + n + " ");
            due("may(" + n + ") with room", mid.may(n), is ? 1 : UNKNOWN);
            due("may(" + n + ") without room", full.may(n), is ? n < 6 ? 1 : 0 : UNKNOWN);
            due("may(" + n + ") without tons", empty.may(n), is ? 0 : UNKNOWN);
        }
        for (int n : new int[] {-1, 42, 43, MIN, MAX}) refused("may(" + n + ")", mid, UNKNOWN, y -> y.may(n));
        EvenHold tight = with("b10,b10,b10;21");
        due("may(0): bent 1, listing 2", tight.may(0), 0);
        due("may(21): listing 1", tight.may(21), 1);
        EvenHold bend = with("b11,b11,b11;20");
        due("may(7): listing 2", bend.may(7), 0);
        due("may(2): listing 1", bend.may(2), 0);
        EvenHold mends = with("b33,b00,b00;30");
        due("may(8): listing 0, bent 3", mends.may(8), 1);
        mends.ground(true);
        due("may(8) aground", mends.may(8), 0);
        EvenHold heap = with("h20,b10,b10;90");
        due("may(2): slides to listing 1", heap.may(2), 0);
        due("may(1) of an empty heap side, ahead of sliding", heap.may(1), 0);
        EvenHold evens = with("h20,b00,b10;90");
        due("may(4): what slid counts", evens.may(4), 1);
    }

    private static void p11act() {
        promise = 11;
        EvenHold none = new EvenHold();
        refused("act(0) without a hold", none, UNKNOWN, y -> y.act(0));
        EvenHold x = with("n11,f11,d11;99");
        due("act(0)", x.act(0), 1);
        due("act(2)", x.act(2), 4);
        due("act(4)", x.act(4), 8);
        due("count(3)", x.count(3), 3);
        due("count(2)", x.count(2), 3);
        due("act(15)", x.act(15), 10);
        due("right of 0", x.bay(0, 2), 0);
        due("right of 1", x.bay(1, 2), 2);
        due("count(3) behind carrying", x.count(3), 3);
        due("act(39) out of a deep one", x.act(39), 13);
        due("right of 1", x.bay(1, 2), 3);
        due("count(4)", x.count(4), 13);
        refused("act(0) without a ton", x, STATE, y -> y.act(0));
        for (int n : new int[] {6, 9, 13, 41, 42, -1, MIN, MAX}) refused("act(" + n + ")", x, UNKNOWN, y -> y.act(n));
        EvenHold full = with("b33,b33,b33;99");
        refused("act(7) without room", full, STATE, y -> y.act(7));
        EvenHold tight = with("b11,b11,b11;00");
        refused("act(0) that she doesn't bear", tight, STATE, y -> y.act(0));
        EvenHold heaps = with("h30,h02,b10;99");
        due("act(4)", heaps.act(4), 2);
        due("left heap, left", heaps.bay(0, 1), 2);
        due("left heap, right", heaps.bay(0, 2), 1);
        due("right heap, left", heaps.bay(1, 1), 1);
        due("right heap, right", heaps.bay(1, 2), 1);
        EvenHold back = with("h11,b00,b00;99");
        due("act(7): carried over and slid back", back.act(7), 2);
        due("left", back.bay(0, 1), 1);
        due("right", back.bay(0, 2), 1);
        EvenHold still = with("b30,b00,b01;99");
        still.act(5);
        due("what is no heap doesn't slide", still.bay(0, 1), 3);
    }

    private static void p12soonest() {
        promise = 12;
        EvenHold none = new EvenHold();
        due("soonest(0) without a hold", none.soonest(0), STATE);
        due("soonest(2) without a hold", none.soonest(2), OUTSIDE);
        EvenHold empty = with("b00,b00,b00;00");
        due("soonest(0) of none", empty.soonest(0), 0);
        due("soonest(1) of none", empty.soonest(1), NONE);
        EvenHold free = with("n10,f01,d11;99");
        due("soonest(0)", free.soonest(0), 1 + 3 + 4 + 4);
        due("soonest(1)", free.soonest(1), 0);
        EvenHold carry = with("b00,n00,d10;99");
        due("soonest(0): 4 out of the deep, or 3 and 1", carry.soonest(0), 4);
        due("soonest(1): the least of both", carry.soonest(1), 4);
        EvenHold never = with("b11,b11,b11;00");
        due("soonest(0) of never", never.soonest(0), NONE);
        due("soonest(1) of never", never.soonest(1), NONE);
        // She does not bear what is now, but what is behind the ACT.
        EvenHold middle = with("b00,b10,b00;19");
        due("soonest(0) of one in the middle", middle.soonest(0), 2);
        due("soonest(1) of one in the middle", middle.soonest(1), 2);
        EvenHold x = with("b22,b22,b22;99");
        due("soonest(0) ahead", x.soonest(0), 24);
        x.act(3);
        due("soonest(0) goes on from now", x.soonest(0), 22);
        x.ground(true);
        due("soonest(0) aground", x.soonest(0), 22);
        EvenHold rock = with("b11,b11,b11;19");
        due("soonest(0) afloat", rock.soonest(0), 12);
        rock.ground(true);
        due("soonest(0) aground by 0", rock.soonest(0), NONE);
        rock.ground(false);
        due("soonest(0) afloat again", rock.soonest(0), 12);
        // BENT by 4; taken out it is 2, carried to an end 1: then middle (1), then end (0).
        EvenHold within = with("b00,b20,b00;19");
        due("soonest(0) with carrying", within.soonest(0), 6);
        due("soonest(1) with carrying", within.soonest(1), 18);
        EvenHold again = with("b11,b11,b11;99");
        due("soonest(0) of the first hold", again.soonest(0), 12);
        typed(again, "d11,d11,d11;99").hold();
        due("soonest(0) of another that lies alike", again.soonest(0), 24);
        typed(again, "d11,d11,d11;90").hold();
        due("soonest(0) of another with less list", again.soonest(0), NONE);
        for (int what : new int[] {-1, 2, MIN, MAX}) refused("soonest(" + what + ")", x, OUTSIDE, y -> y.soonest(what));
    }

    private static void p13most() {
        promise = 13;
        due("most() without a hold", new EvenHold().most(), STATE);
        due("most() of none", with("b00,b00,b00;00").most(), 0);
        due("most() of all", with("b33,b33,b33;99").most(), 18);
        due("most() of what can't move", with("b11,b11,b11;00").most(), 0);
        EvenHold x = with("b11,b00,b00;09");
        due("most(): bent by 2 and may not be by 1", x.most(), 0);
        EvenHold y = with("b11,b00,b00;90");
        due("most(): one ton lists", y.most(), 0);
        EvenHold some = with("b30,b00,b00;92");
        due("most() of three left", some.most(), 3);
        some.act(0);
        due("most() goes on from now", some.most(), 2);
        // With one out she is BENT by 1, and aground she bears 0.
        EvenHold rock = with("b10,b00,b10;19");
        due("most() of two ends", rock.most(), 2);
        rock.ground(true);
        due("most() aground", rock.most(), 0);
    }

    private static void p14holds() {
        promise = 14;
        due("holds() without a hold", new EvenHold().holds(), STATE);
        due("holds() of none", with("b00,b00,b00;00").holds(), 1);
        due("holds() of what can't move", with("b11,b11,b11;00").holds(), 1);
        due("holds() of one ton: six cells, and out", with("b10,b00,b00;99").holds(), 7);
        // BENT 2 in the middle is too much, so only the own BAY, and out.
        due("holds() of one ton with bend 1", with("b10,b00,b00;19").holds(), 3);
        EvenHold x = with("b10,b00,b00;29");
        due("holds() with bend 2", x.holds(), 7);
        x.ground(true);
        due("holds() aground", x.holds(), 3);
        x.act(0);
        due("holds() of empty", x.holds(), 1);
    }

    private static void p15leastBend() {
        promise = 15;
        EvenHold none = new EvenHold();
        refused("leastBend() without a hold", none, STATE, y -> y.leastBend());
        due("count(9)", none.count(9), 0);
        due("leastBend() of none", with("b00,b00,b00;99").leastBend(), 0);
        due("leastBend() of one ton in the middle", with("b00,b10,b00;09").leastBend(), 0);
        due("leastBend() of two in the middle", with("b00,b20,b00;09").leastBend(), 1);
        // Full cells: taking leaves her BENT by 10, carrying to an end by 9.
        due("leastBend() of a full middle", with("b00,b33,b00;01").leastBend(), 9);
        due("leastBend() by list 0", with("b00,b10,b00;90").leastBend(), 0);
        due("leastBend() of two, list 0", with("b00,b11,b00;90").leastBend(), NONE);
        EvenHold x = with("b33,b33,b33;01");
        due("leastBend() of all", x.leastBend(), 1);
        due("count(9)", x.count(9), 1);
        x.ground(true);
        due("leastBend() is told afloat", x.leastBend(), 1);
        EvenHold y = with("b00,b11,b00;90");
        for (int n = 1; n <= 11; n++) due("leastBend() as " + n, y.leastBend(), NONE);
        due("count(9): NONE counts", y.count(9), 11);
        typed(y, "b00,b11,b00;99").hold();
        due("leastBend() as 12", y.leastBend(), 1);
        refused("leastBend() as 13", y, STATE, z -> z.leastBend());
        due("count(9)", y.count(9), 12);
        typed(y, "b00,b11,b00;99").hold();
        refused("leastBend() with another hold", y, STATE, z -> z.leastBend());
    }

    private static void p16string() {
        promise = 16;
        EvenHold x = new EvenHold();
        for (int bent : new int[] {-1, 13, MIN, MAX}) refused("string(" + bent + ")", x, OUTSIDE, y -> y.string(bent));
        due("string(0)", x.string(0), 1);
        due("string(12)", x.string(12), 2);
        due("string(3)", x.string(3), 3);
        due("string(3)", x.string(3), 4);
        refused("string(3) as 5", x, FULL, y -> y.string(3));
        refused("string(13) as 5", x, OUTSIDE, y -> y.string(13));
        due("count(6)", x.count(6), 4);
    }

    private static void p17forget() {
        promise = 17;
        EvenHold x = with("b10,b00,b00;99");
        due("forget() of none", x.forget(), 0);
        x.string(3);
        x.string(3);
        due("forget()", x.forget(), 2);
        due("forget() again", x.forget(), 0);
        due("fits(0)", x.fits(0), 1);
        x.string(0);
        due("fits(0) of what was told behind it", x.fits(0), 1);
    }

    private static void p18fits() {
        promise = 18;
        EvenHold none = new EvenHold();
        due("fits(0) without a hold", none.fits(0), STATE);
        due("fits(3) without a hold", none.fits(3), OUTSIDE);
        EvenHold x = with("b10,b00,b00;99");
        due("fits(0) of an empty string", x.fits(0), 1);
        due("fits(1) of an empty string", x.fits(1), 0);
        due("fits(2) of an empty string", x.fits(2), NONE);
        x.string(1);
        due("fits(0): carried to the right", x.fits(0), 1);
        due("fits(1)", x.fits(1), 1);
        due("fits(2)", x.fits(2), 7);
        x.forget();
        x.string(2);
        x.string(1);
        // 0 to 2, then to 0 or 4.
        due("fits(0) by way of the middle", x.fits(0), 2);
        due("fits(1) by way of the middle", x.fits(1), 1);
        due("fits(2) by way of the middle", x.fits(2), 8);
        x.string(12);
        due("fits(0) of what can't be", x.fits(0), 0);
        due("fits(1) of what can't be", x.fits(1), 0);
        due("fits(2) of what can't be", x.fits(2), NONE);
        EvenHold four = with("b11,b11,b11;99");
        for (int n = 0; n < 4; n++) four.string(0);
        // 0 stays 0 by carrying across alone; k times in one BAY: 1, 2, 2, 4, 4 ways for k of 0 to 4.
        int threeAndOne = 6 * 4 * (4 * 2), twoAndTwo = 3 * 6 * (2 * 2), twoOneOne = 3 * 12 * (2 * 2 * 2);
        due("fits(0) of four", four.fits(0), 3 * 4 + threeAndOne + twoAndTwo + twoOneOne);
        due("fits(1) of four", four.fits(1), 6);
        due("fits(2) of four", four.fits(2), 7);
        EvenHold rock = with("b11,b00,b00;29");
        rock.string(2);
        due("fits(0) afloat: across, either way", rock.fits(0), 2);
        rock.ground(true);
        due("fits(0) aground: 1 is borne", rock.fits(0), 0);
        rock.forget();
        rock.string(1);
        rock.string(0);
        due("fits(0) aground: one out, and the other", rock.fits(0), 2);
        due("fits(2) aground", rock.fits(2), 0);
        rock.act(0);
        due("fits(0) from now", rock.fits(0), 1);
        for (int what : new int[] {-1, 3, MIN, MAX}) refused("fits(" + what + ")", x, OUTSIDE, y -> y.fits(what));
    }

    private static void p19days() {
        promise = 19;
        EvenHold none = new EvenHold();
        due("days(1, 0, 0) without a hold", none.days(1, 0, 0), STATE);
        due("days(0, 0, 0) without a hold", none.days(0, 0, 0), OUTSIDE);
        EvenHold x = with("b33,b33,b33;99");
        due("days(1, 0, 3)", x.days(1, 0, 3), 12345);
        // 12345 by 65536 is 0: a ton is taken from cell 0.
        due("days(1, 0, 0)", x.days(1, 0, 0), 1);
        due("days(1, 0, 1)", x.days(1, 0, 1), 2);
        due("days(1, 0, 2)", x.days(1, 0, 2), 17);
        due("days(2, 0, 3)", x.days(2, 0, 3), (1103515245L * 12345 + 12345) % (1L << 31));
        due("days(1, MAX, 3)", x.days(1, MAX, 3), (1103515245L * MAX + 12345) % (1L << 31));
        long before = x.digest();
        x.days(90, 7, 0);
        due("digest(): days are as they would be", x.digest(), before);
        EvenHold still = with("b11,b11,b11;00");
        due("days(90, 1, 0) where nothing may be", still.days(90, 1, 0), 0);
        due("days(90, 1, 1) where nothing may be", still.days(90, 1, 1), 0);
        due("days(90, 1, 2) where nothing may be", still.days(90, 1, 2), 6);
        due("days(90, 1, 3)", still.days(90, 1, 3), x.days(90, 1, 3));
        for (int acts : new int[] {0, -1, 91, MIN, MAX}) refused("days(" + acts + ", 0, 0)", x, OUTSIDE, y -> y.days(acts, 0, 0));
        for (int seed : new int[] {-1, MIN}) refused("days(1, " + seed + ", 0)", x, OUTSIDE, y -> y.days(1, seed, 0));
        for (int what : new int[] {-1, 4, MIN, MAX}) refused("days(1, 0, " + what + ")", x, OUTSIDE, y -> y.days(1, 0, what));
    }

    private static void p20image() {
        promise = 20;
        EvenHold none = new EvenHold();
        refused("image() without a hold", none, STATE, y -> y.image());
        EvenHold x = with("b11,f11,b11;99");
        due("image()", x.image(), 0);
        x.act(2);
        due("image() later", x.image(), 3);
        x.act(3);
        due("restore(): the latest", x.restore(), 3);
        long before = x.digest();
        x.image();
        due("digest(): an image changes nothing", x.digest(), before);
    }

    private static void p21restore() {
        promise = 21;
        EvenHold x = with("b11,h11,b11;99");
        refused("restore() of none", x, STATE, y -> y.restore());
        x.act(0);
        x.ground(true);
        x.string(1);
        x.string(2);
        long then = x.digest();
        due("image()", x.image(), 2);
        x.act(5);
        x.act(1);
        x.ground(false);
        x.forget();
        x.string(9);
        due("restore()", x.restore(), 2);
        due("digest()", x.digest(), then);
        x.forget();
        x.string(9);
        due("restore() twice", x.restore(), 2);
        due("digest() twice", x.digest(), then);
        x.letter('b');
        x.leastBend();
        x.restore();
        due("count(7) isn't of the image", x.count(7), 1);
        due("count(9) isn't of the image", x.count(9), 1);
        x.blank();
        refused("hold() that is refused", x, STATE, y -> y.hold());
        due("restore() behind it", x.restore(), 2);
        typed(x, "b11,h11,b11;99").hold();
        refused("restore() behind the same text", x, STATE, y -> y.restore());
        due("image()", x.image(), 0);
        due("restore() of the new one", x.restore(), 0);
    }

    private static void p22count() {
        promise = 22;
        EvenHold x = new EvenHold();
        for (int what : new int[] {-1, 10, MIN, MAX}) refused("count(" + what + ")", x, OUTSIDE, y -> y.count(what));
        x = with("b11,f11,b11;78");
        x.act(2);
        x.act(7);
        x.ground(true);
        x.string(1);
        x.string(1);
        typed(x, "b11");
        x.leastBend();
        int[] want = {7, 8, 5, 1, 5, 1, 2, 3, 1, 1};
        for (int what = 0; what <= 9; what++) due("count(" + what + ")", x.count(what), want[what]);
    }

    private static long mixed(int... numbers) {
        long h = 829;
        for (int n : numbers) h = 31 * h + n;
        return h;
    }

    private static void p23digest() {
        promise = 23;
        EvenHold x = new EvenHold();
        due("digest() of a new one", x.digest(), mixed(0, 0, 0, 0, 0, 0, 0, 0, 0, 0));
        typed(x, "b~");
        x.string(4);
        due("digest() without a hold", x.digest(), mixed('b', '~', 0, 0, 0, 0, 0, 0, 1, 2, 0, 0));
        EvenHold one = with("b10,d00,h00;23");
        one.string(1);
        one.letter('n');
        due("digest()", one.digest(), mixed(
            0, 1, 0, 2, 2, 4, 0, 0, 4, 3, 3, 0, 0, 2, 2,
            1, 1, 1, 2,
            1, 0, 0, 0, 0, 0, 1, 1, 0, 0, 0, 0, 0, 0, 0, 0, 0, 0, 0, 0,
            2, 0, 1, 7,
            1, 1, 7,
            'n',
            2, 3, 1, 0, 0, 0, 1, 1, 1, 0));
        due("digest() again", one.digest(), one.digest());
    }

    public static void main(String[] args) {
        p1newObject();
        p2letter();
        p3blank();
        p4fault();
        p5hold();
        p6bay();
        p7as();
        p8ground();
        p9hull();
        p10may();
        p11act();
        p12soonest();
        p13most();
        p14holds();
        p15leastBend();
        p16string();
        p17forget();
        p18fits();
        p19days();
        p20image();
        p21restore();
        p22count();
        p23digest();
        System.out.println(wrong == 0 ? "all promises are kept" : wrong + " answers are not as due");
        if (wrong != 0) System.exit(1);
    }
}
