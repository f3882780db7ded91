import java.util.ArrayList;
import java.util.List;

/** The boundaries in 'What it is' and 'Terms', as far as HOLDS, ACTS and what she bears. */
public final class TermsBoundsTest {
    private static final String KINDS = "bnfhd";
    private static final String WHOLE = "n21,h12,d03;53";

    /** Of all letters at a place of an else faultless page just these are taken. */
    private static void takenAt(int place, String good) {
        for (char c = 1; c <= 126; c++) {
            String page = WHOLE.substring(0, place) + c + WHOLE.substring(place + 1);
            boolean taken = good.indexOf(c) >= 0;
            EvenHold x = Bounds.typed(new EvenHold(), page);
            Bounds.due("fault() of " + page, x.fault(), taken ? 14 : place);
            Bounds.due("hold() of " + page + " is taken", x.hold() >= 0 ? 1 : 0, taken ? 1 : 0);
        }
    }

    private static void threeBays() {
        EvenHold x = Bounds.with("n01,f23,d10;45");
        int[][] want = {{1, 0, 1}, {2, 2, 3}, {4, 1, 0}};
        for (int bay = 0; bay < 3; bay++) {
            for (int what = 0; what < 3; what++) Bounds.due("bay(" + bay + ", " + what + ")", x.bay(bay, what), want[bay][what]);
        }
        Bounds.due("bay(-1, 0)", x.bay(-1, 0), Bounds.UNKNOWN);
        Bounds.due("bay(3, 0)", x.bay(3, 0), Bounds.UNKNOWN);
        Bounds.due("hold() of two bays", Bounds.typed(new EvenHold(), "n01,f23;45").hold(), Bounds.STATE);
        EvenHold four = Bounds.typed(new EvenHold(), "n01,f23,d10,b00;45");
        Bounds.due("fault() of four bays", four.fault(), 11);
        Bounds.due("hold() of four bays", four.hold(), Bounds.STATE);
    }

    private static void commas() {
        takenAt(3, ",");
        takenAt(7, ",");
    }

    private static void kindLetters() {
        for (int place = 0; place < 12; place += 4) takenAt(place, KINDS);
    }

    private static void tonDigits() {
        for (int place : new int[] {1, 2, 5, 6, 9, 10}) takenAt(place, "0123");
        for (int cell = 0; cell < 6; cell++) {
            for (int tons = 0; tons <= 3; tons++) {
                int[] cells = {1, 1, 1, 1, 1, 1};
                cells[cell] = tons;
                EvenHold x = Bounds.with(Bounds.text("bnf", cells, 9, 9));
                Bounds.due("tons " + tons + " in cell " + cell, x.bay(cell / 2, 1 + cell % 2), tons);
                Bounds.due("tons of all then", x.count(2), 5 + tons);
            }
        }
    }

    private static void semicolon() {
        takenAt(11, ";");
    }

    private static void bendAndListDigits() {
        takenAt(12, "0123456789");
        takenAt(13, "0123456789");
        for (int bend = 0; bend <= 9; bend++) {
            for (int list = 0; list <= 9; list++) {
                EvenHold x = Bounds.with("b00,b00,b00;" + bend + list);
                Bounds.due("BEND of ;" + bend + list, x.count(0), bend);
                Bounds.due("LIST of ;" + bend + list, x.count(1), list);
            }
        }
    }

    private static void lastCalls() {
        EvenHold x = Bounds.with("d10,h21,b12;99");
        for (int calls = 15; calls < 509; calls += 2) {
            x.act(7);
            x.act(12);
        }
        EvenHold fresh = Bounds.with("d10,h21,b12;99");
        Bounds.due("MINUTES behind 494 acts", x.count(4), 494 * 3);
        Bounds.due("act(0) as call 511", x.act(0), 494 * 3 + 4);
        fresh.act(0);
        Bounds.due("holds() as call 512", x.holds(), fresh.holds());
        EvenHold reads = new EvenHold();
        for (int n = 1; n <= 34; n++) {
            Bounds.typed(reads, WHOLE);
            Bounds.due("hold() as read " + n, reads.hold(), 9);
        }
        Bounds.due("count(8) as call 511", reads.count(8), 34);
        Bounds.due("soonest(0) as call 512", reads.soonest(0), 21);
    }

    private static void kindNumbers() {
        for (int kind = 0; kind < 5; kind++) {
            for (int bay = 0; bay < 3; bay++) {
                String kinds = "bbb".substring(0, bay) + KINDS.charAt(kind) + "bbb".substring(bay + 1);
                EvenHold x = Bounds.with(Bounds.text(kinds, new int[6], 0, 0));
                for (int b = 0; b < 3; b++) Bounds.due("KIND of bay " + b + " of " + kinds, x.bay(b, 0), b == bay ? kind : 0);
            }
        }
    }

    private static void asKind(int kind, String such) {
        for (char own : KINDS.toCharArray()) {
            EvenHold x = Bounds.with("b00,".replace('b', own) + "b00,".replace('b', own) + own + "00;00");
            for (int bay = 0; bay < 3; bay++) {
                Bounds.due("as(" + bay + ", " + kind + ") of " + own, x.as(bay, kind), such.indexOf(own) >= 0 ? bay : Bounds.NONE);
            }
        }
    }

    private static void atFirst() {
        EvenHold x = new EvenHold();
        Bounds.due("hull(0)", x.hull(0), Bounds.STATE);
        Bounds.due("count(8)", x.count(8), 0);
        Bounds.due("count(5)", x.count(5), 0);
        Bounds.typed(x, WHOLE).hold();
        Bounds.due("count(5) with a hold", x.count(5), 0);
        Bounds.due("ground(false) was", x.ground(false), 0);
    }

    private static void taken() {
        for (int cell = 0; cell < 6; cell++) {
            EvenHold x = Bounds.with("b33,b33,b33;99");
            Bounds.due("act(" + cell + ")", x.act(cell), 2);
            int ton = (int) Math.pow(10, 5 - cell);
            Bounds.due("cells behind act(" + cell + ")", Bounds.cells(x), 333333 - ton);
            Bounds.due("tons out behind act(" + cell + ")", x.count(3), 1);
        }
    }

    private static void carried() {
        for (int act : Bounds.CARRYINGS) {
            EvenHold x = Bounds.with("b11,b11,b11;99");
            Bounds.due("act(" + act + ")", x.act(act), 2);
            int ton = (int) Math.pow(10, 5 - Bounds.from(act)), put = (int) Math.pow(10, 5 - Bounds.into(act));
            Bounds.due("cells behind act(" + act + ")", Bounds.cells(x), 111111 - ton + put);
            Bounds.due("tons out behind act(" + act + ")", x.count(3), 0);
            Bounds.due("tons there behind act(" + act + ")", x.count(2), 6);
        }
    }

    private static void whatIsAnAct() {
        EvenHold x = Bounds.with("b11,b11,b11;99");
        List<Integer> acts = Bounds.acts();
        for (int number = -50; number <= 100; number++) {
            Bounds.due("may(" + number + ")", x.may(number), acts.contains(number) ? 1 : Bounds.UNKNOWN);
        }
        for (int cell = 0; cell < 6; cell++) Bounds.due("may: into itself, " + cell, x.may(6 + 6 * cell + cell), Bounds.UNKNOWN);
        for (int side = 0; side < 2; side++) {
            Bounds.due("may: bow to stern", x.may(6 + 6 * side + 4 + side), Bounds.UNKNOWN);
            Bounds.due("may: stern to bow", x.may(6 + 6 * (4 + side) + side), Bounds.UNKNOWN);
            Bounds.due("may: bow to the other side of the middle", x.may(6 + 6 * side + 3 - side), Bounds.UNKNOWN);
        }
    }

    private static void fewerThanThree() {
        for (int act : Bounds.CARRYINGS) {
            for (int room = 0; room <= 3; room++) {
                int[] cells = new int[6];
                cells[Bounds.from(act)] = 1;
                cells[Bounds.into(act)] = room;
                EvenHold x = Bounds.with(Bounds.text("bbb", cells, 9, 9));
                Bounds.due("may(" + act + ") into " + room, x.may(act), room < 3 ? 1 : 0);
                Bounds.due("act(" + act + ") into " + room, x.act(act), room < 3 ? 2 : Bounds.STATE);
                Bounds.due("tons there then", x.bay(Bounds.into(act) / 2, 1 + Bounds.into(act) % 2), Math.min(3, room + 1));
            }
        }
        // Room that sliding would make comes too late.
        Bounds.due("may(18) into a heap of 3 and 0", Bounds.with("h30,b11,b00;99").may(18), 0);
    }

    private static void mustBeATon() {
        for (int act : Bounds.acts()) {
            for (int tons = 0; tons <= 3; tons++) {
                int[] cells = {1, 1, 1, 1, 1, 1};
                cells[Bounds.from(act)] = tons;
                EvenHold x = Bounds.with(Bounds.text("bbb", cells, 9, 9));
                Bounds.due("may(" + act + ") from " + tons, x.may(act), tons > 0 ? 1 : 0);
                Bounds.due("act(" + act + ") from " + tons, x.act(act), tons > 0 ? 2 : Bounds.STATE);
            }
        }
        // A ton that sliding would bring comes too late.
        Bounds.due("may(1) of a heap of 2 and 0", Bounds.with("h20,b11,b11;99").may(1), 0);
    }

    /** The BAY as read, with 1 and 1 in both others, behind a ton taken in another BAY: left and right as two digits. */
    private static int behindAnother(int bay, char kind, int left, int right) {
        int[] cells = {1, 1, 1, 1, 1, 1};
        cells[2 * bay] = left;
        cells[2 * bay + 1] = right;
        String kinds = "bbb".substring(0, bay) + kind + "bbb".substring(bay + 1);
        EvenHold x = Bounds.with(Bounds.text(kinds, cells, 9, 9));
        Bounds.due("act ahead of sliding", x.act(bay == 0 ? 4 : 0), 2);
        return 10 * x.bay(bay, 1) + x.bay(bay, 2);
    }

    private static void slides(int unlike, int slid) {
        for (int bay = 0; bay < 3; bay++) {
            for (int less = 0; less + unlike <= 3; less++) {
                int more = less + unlike;
                Bounds.due("heap " + bay + " of " + more + " and " + less, behindAnother(bay, 'h', more, less), 10 * (more - slid) + less + slid);
                Bounds.due("heap " + bay + " of " + less + " and " + more, behindAnother(bay, 'h', less, more), 10 * (less + slid) + more - slid);
            }
        }
    }

    private static void onlyHeapsSlide() {
        for (char kind : "bnfd".toCharArray()) {
            for (int bay = 0; bay < 3; bay++) {
                for (int left = 0; left <= 3; left++) {
                    for (int right = 0; right <= 3; right++) {
                        Bounds.due(kind + " of " + left + " and " + right, behindAnother(bay, kind, left, right), 10 * left + right);
                    }
                }
            }
        }
    }

    private static void eachHeapSlides() {
        EvenHold x = Bounds.with("h30,h03,h20;99");
        x.act(0);
        Bounds.due("three heaps at once", Bounds.cells(x), 111211);
        EvenHold y = Bounds.with("h20,h02,b11;99");
        y.act(32);
        Bounds.due("bow and middle, one carried from the stern", Bounds.cells(y), 111201);
        EvenHold z = Bounds.with("h02,b00,h31;99");
        z.act(4);
        Bounds.due("both ends, one even by the ACT", Bounds.cells(z), 110021);
    }

    private static void slidesBehindTheAct() {
        EvenHold lessByIt = Bounds.with("h20,b11,b11;99");
        lessByIt.act(0);
        Bounds.due("2 and 0, one taken from the fuller side", Bounds.cells(lessByIt), 101111);
        EvenHold moreByIt = Bounds.with("h21,b11,b11;99");
        moreByIt.act(1);
        Bounds.due("2 and 1, one taken from the other side", Bounds.cells(moreByIt), 111111);
        EvenHold across = Bounds.with("h12,b11,b11;99");
        Bounds.due("act(7)", across.act(7), 2);
        Bounds.due("1 and 2, carried across", Bounds.cells(across), 121111);
        EvenHold into = Bounds.with("h20,b11,b11;99");
        into.act(18);
        Bounds.due("2 and 0, one carried into the fuller side", Bounds.cells(into), 210111);
        EvenHold out = Bounds.with("h13,b11,b11;99");
        out.act(8);
        Bounds.due("1 and 3, carried out of the emptier side", Bounds.cells(out), 122111);
    }

    private static void oneEachTime() {
        EvenHold x = Bounds.with("h30,b11,b11;99");
        x.act(4);
        Bounds.due("3 and 0 behind one ACT", Bounds.cells(x), 211101);
        x.act(5);
        Bounds.due("3 and 0 behind two ACTS", Bounds.cells(x), 211100);
        EvenHold refused = Bounds.with("h30,b11,b00;99");
        Bounds.due("act(4) is refused", refused.act(4), Bounds.STATE);
        Bounds.due("nothing slides by a refused ACT", Bounds.cells(refused), 301100);
        Bounds.due("may(2) asked", refused.may(2), 1);
        Bounds.due("nothing slides by asking", Bounds.cells(refused), 301100);
    }

    private interface Unlike {
        int of(int[] cells);
    }

    private static void everyLying(int what, Unlike want) {
        for (int lying = 0; lying < 4096; lying++) {
            int[] cells = new int[6];
            for (int cell = 0; cell < 6; cell++) cells[cell] = lying >> 2 * cell & 3;
            String text = Bounds.text("bhd", cells, 0, 0);
            Bounds.due("hull(" + what + ") of " + text, Bounds.with(text).hull(what), want.of(cells));
        }
    }

    private static void bent() {
        everyLying(0, c -> Math.abs(c[0] + c[1] + c[4] + c[5] - 2 * (c[2] + c[3])));
        Bounds.due("BENT of full ends", Bounds.with("b33,b00,b33;00").hull(0), 12);
        Bounds.due("BENT of a full middle", Bounds.with("b00,b33,b00;00").hull(0), 12);
        Bounds.due("BENT of all", Bounds.with("b33,b33,b33;00").hull(0), 0);
    }

    private static void listing() {
        everyLying(1, c -> Math.abs(c[0] + c[2] + c[4] - c[1] - c[3] - c[5]));
        Bounds.due("LISTING of full left sides", Bounds.with("b30,b30,b30;00").hull(1), 9);
        Bounds.due("LISTING of full right sides", Bounds.with("b03,b03,b03;00").hull(1), 9);
    }

    /** Tons laid into these CELLS, one behind the other, three in each. */
    private static int[] laid(int tons, int... into) {
        int[] cells = new int[6];
        for (int i = 0; i < tons; i++) cells[into[i / 3]]++;
        return cells;
    }

    private static void bearsBend() {
        for (int bend = 0; bend <= 9; bend++) {
            for (int bent = 0; bent <= 12; bent++) {
                EvenHold x = Bounds.with(Bounds.text("bbb", laid(bent, 0, 1, 4, 5), bend, 9));
                Bounds.due("BENT", x.hull(0), bent);
                Bounds.due("hull(2) of BENT " + bent + ", BEND " + bend, x.hull(2), bent <= bend ? 1 : 0);
                x.ground(true);
                Bounds.due("hull(2) of BENT " + bent + ", BEND " + bend + " aground", x.hull(2), bent <= bend / 2 ? 1 : 0);
            }
        }
    }

    private static void halfRoundedDown() {
        int[] half = {0, 0, 1, 1, 2, 2, 3, 3, 4, 4};
        for (int bend = 0; bend <= 9; bend++) {
            EvenHold x = Bounds.with("b00,b00,b00;" + bend + "0");
            Bounds.due("hull(3) of BEND " + bend, x.hull(3), bend);
            x.ground(true);
            Bounds.due("hull(3) of BEND " + bend + " aground", x.hull(3), half[bend]);
            Bounds.due("count(0) aground is BEND itself", x.count(0), bend);
            x.ground(true);
            Bounds.due("hull(3) is not halved again", x.hull(3), half[bend]);
        }
    }

    private static void bearsList() {
        for (int list = 0; list <= 9; list++) {
            for (int listing = 0; listing <= 9; listing++) {
                for (int side = 0; side < 2; side++) {
                    EvenHold x = Bounds.with(Bounds.text("bbb", laid(listing, side, 4 + side, 2 + side), 9, list));
                    Bounds.due("LISTING", x.hull(1), listing);
                    Bounds.due("hull(2) of LISTING " + listing + ", LIST " + list, x.hull(2), listing <= list ? 1 : 0);
                }
            }
        }
    }

    private static void listIsNotHalved() {
        EvenHold x = Bounds.with("b30,b30,b30;09");
        x.ground(true);
        Bounds.due("hull(2) of LISTING 9, LIST 9, aground", x.hull(2), 1);
        EvenHold y = Bounds.with("b20,b10,b00;01");
        y.ground(true);
        Bounds.due("may(0) to LISTING 2, LIST 1, aground", y.may(0), 0);
        EvenHold z = Bounds.with("b20,b11,b01;92");
        z.ground(true);
        Bounds.due("may(1) without a ton", z.may(1), 0);
        Bounds.due("may(5) to LISTING 2, LIST 2, aground", z.may(5), 1);
    }

    private static void actToBend() {
        for (int bend = 0; bend <= 9; bend++) {
            for (int tons = 1; tons <= 12; tons++) {
                EvenHold x = Bounds.with(Bounds.text("bbb", laid(tons, 0, 1, 4, 5), bend, 9));
                Bounds.due("may(0) to BENT " + (tons - 1) + ", BEND " + bend, x.may(0), tons - 1 <= bend ? 1 : 0);
                x.ground(true);
                Bounds.due("may(0) to BENT " + (tons - 1) + ", BEND " + bend + " aground", x.may(0), tons - 1 <= bend / 2 ? 1 : 0);
            }
        }
    }

    private static void actToList() {
        for (int list = 0; list <= 9; list++) {
            for (int left = 0; left <= 9; left++) {
                int[] cells = laid(left, 0, 4, 2);
                cells[1] = 1;
                EvenHold x = Bounds.with(Bounds.text("bbb", cells, 9, list));
                Bounds.due("act(1) to LISTING " + left + ", LIST " + list, x.act(1), left <= list ? 2 : Bounds.STATE);
            }
        }
    }

    private static void aheadDoesNotMatter() {
        EvenHold bent = Bounds.with("b00,b33,b00;99");
        Bounds.due("hull(2) of BENT 12", bent.hull(2), 0);
        Bounds.due("may(2) to BENT 10", bent.may(2), 0);
        Bounds.due("may(18) to BENT 9", bent.may(18), 1);
        EvenHold lists = Bounds.with("b30,b00,b00;91");
        Bounds.due("hull(2) of LISTING 3", lists.hull(2), 0);
        Bounds.due("may(0) to LISTING 2", lists.may(0), 0);
        Bounds.due("may(7) to LISTING 1", lists.may(7), 1);
        EvenHold borne = Bounds.with("b11,b11,b11;00");
        Bounds.due("hull(2) of what is even", borne.hull(2), 1);
        for (int act : Bounds.acts()) Bounds.due("may(" + act + ") out of it", borne.may(act), 0);
    }

    private static void whatSlidCounts() {
        Bounds.due("may(4): borne by sliding", Bounds.with("h20,b00,b10;90").may(4), 1);
        Bounds.due("may(4): not borne without", Bounds.with("b20,b00,b10;90").may(4), 0);
        Bounds.due("may(5): not borne by sliding", Bounds.with("h20,b01,b02;90").may(5), 0);
        Bounds.due("may(5): borne without", Bounds.with("b20,b01,b02;90").may(5), 1);
    }

    private static void takingMinutes() {
        int[] want = {2, 1, 3, 2, 4};
        for (int kind = 0; kind < 5; kind++) {
            for (int cell = 0; cell < 6; cell++) {
                String kinds = "bbb".substring(0, cell / 2) + KINDS.charAt(kind) + "bbb".substring(cell / 2 + 1);
                EvenHold x = Bounds.with(Bounds.text(kinds, new int[] {1, 1, 1, 1, 1, 1}, 9, 9));
                Bounds.due("bay(.., 3) of " + kinds, x.bay(cell / 2, 3), want[kind]);
                Bounds.due("act(" + cell + ") of " + kinds, x.act(cell), want[kind]);
            }
        }
    }

    private static void carryingMinutes() {
        List<String> pairs = new ArrayList<>();
        for (char out : KINDS.toCharArray()) for (char other : KINDS.toCharArray()) pairs.add("" + out + other);
        for (String pair : pairs) {
            for (int act : Bounds.CARRYINGS) {
                int bay = Bounds.from(act) / 2;
                char[] kinds = {pair.charAt(1), pair.charAt(1), pair.charAt(1)};
                kinds[bay] = pair.charAt(0);
                EvenHold x = Bounds.with(Bounds.text(new String(kinds), new int[] {1, 1, 1, 1, 1, 1}, 9, 9));
                int want = pair.charAt(0) == 'd' ? 3 : 2;
                Bounds.due("bay(.., 4) of " + new String(kinds), x.bay(bay, 4), want);
                Bounds.due("act(" + act + ") of " + new String(kinds), x.act(act), want);
            }
        }
    }

    private static void holdSentences() {
        Bounds.sentence("three BAYS (0 bow, 1 middle, 2 stern)", TermsBoundsTest::threeBays);
        Bounds.sentence("with ',' between", TermsBoundsTest::commas);
        Bounds.sentence("each a letter, the KIND", TermsBoundsTest::kindLetters);
        Bounds.sentence("a digit LEFT and a digit RIGHT (0 to 3: tons)", TermsBoundsTest::tonDigits);
        Bounds.sentence("then ';'", TermsBoundsTest::semicolon);
        Bounds.sentence("a digit BEND, a digit LIST (0 to 9: what she bears)", TermsBoundsTest::bendAndListDigits);
        Bounds.sentence("at most 512 calls after it has been made", TermsBoundsTest::lastCalls);
        Bounds.sentence("KINDS: 0 b, 1 n, 2 f, 3 h, 4 d", TermsBoundsTest::kindNumbers);
        Bounds.sentence("All are BAYS", () -> asKind(0, KINDS));
        Bounds.sentence("KIND 1 is NEAR alone", () -> asKind(1, "n"));
        Bounds.sentence("a DEEP one is FAR, too", () -> asKind(2, "fd"));
        Bounds.sentence("KIND 3 is HEAPED alone", () -> asKind(3, "h"));
        Bounds.sentence("KIND 4 is DEEP alone", () -> asKind(4, "d"));
        Bounds.sentence("At first there is no HOLD; she is not AGROUND", TermsBoundsTest::atFirst);
    }

    private static void actSentences() {
        Bounds.sentence("0 to 5 a ton is TAKEN out of that CELL", TermsBoundsTest::taken);
        Bounds.sentence("6, 6 times a CELL, and another CELL, added: CARRIED from the first one into the second one", TermsBoundsTest::carried);
        Bounds.sentence("the other one of the same BAY, or the same side of the BAY beside it (1 is beside 0 and 2)", TermsBoundsTest::whatIsAnAct);
        Bounds.sentence("and has fewer than 3", TermsBoundsTest::fewerThanThree);
        Bounds.sentence("There must be a ton", TermsBoundsTest::mustBeATon);
        Bounds.sentence("unlike by 0: nothing slides", () -> slides(0, 0));
        Bounds.sentence("unlike by 1: nothing slides", () -> slides(1, 0));
        Bounds.sentence("unlike by 2: a ton slides from the fuller side to the other one", () -> slides(2, 1));
        Bounds.sentence("unlike by 3, the most: one ton slides", () -> slides(3, 1));
        Bounds.sentence("in each HEAPED BAY (in no other)", TermsBoundsTest::onlyHeapsSlide);
        Bounds.sentence("in each HEAPED BAY (in all)", TermsBoundsTest::eachHeapSlides);
        Bounds.sentence("Then (behind the ACT)", TermsBoundsTest::slidesBehindTheAct);
        Bounds.sentence("(one each time)", TermsBoundsTest::oneEachTime);
    }

    private static void bearingSentences() {
        Bounds.sentence("BENT is she by as many as BAYS 0 and 2 together are unlike twice those of BAY 1", TermsBoundsTest::bent);
        Bounds.sentence("LISTING by as many as all LEFT tons are unlike all RIGHT ones", TermsBoundsTest::listing);
        Bounds.sentence("if she is BENT by no more than BEND", TermsBoundsTest::bearsBend);
        Bounds.sentence("(AGROUND: half of that, rounded down)", TermsBoundsTest::halfRoundedDown);
        Bounds.sentence("and LISTING by no more than LIST", TermsBoundsTest::bearsList);
        Bounds.sentence("LIST is not halved", TermsBoundsTest::listIsNotHalved);
        Bounds.sentence("An ACT may be done, if she BEARS what is behind it (BEND)", TermsBoundsTest::actToBend);
        Bounds.sentence("An ACT may be done, if she BEARS what is behind it (LIST)", TermsBoundsTest::actToList);
        Bounds.sentence("what is behind it (not what is ahead)", TermsBoundsTest::aheadDoesNotMatter);
        Bounds.sentence("(and what slid)", TermsBoundsTest::whatSlidCounts);
        Bounds.sentence("TAKING lasts 2 MINUTES, from a NEAR BAY 1, from a FAR one 3, from a DEEP one 4", TermsBoundsTest::takingMinutes);
        Bounds.sentence("CARRYING 2, out of a DEEP one 3", TermsBoundsTest::carryingMinutes);
    }

    public static void main(String[] args) {
        holdSentences();
        actSentences();
        bearingSentences();
        Bounds.end();
    }
}
