/** The boundaries of promises 10 to 15: acts, and what would be. */
public final class ActsBoundsTest {

    // ---- 10 may

    private static void mayOneOrNone() {
        EvenHold x = Bounds.with("b10,b01,b00;99");
        int[] want = {1, 0, 0, 1, 0, 0};
        for (int act = 0; act < 6; act++) Bounds.due("may(" + act + ")", x.may(act), want[act]);
        Bounds.due("may(7)", x.may(7), 1);
        Bounds.due("may(12)", x.may(12), 0);
    }

    private static void mayUnknown() {
        for (int number = -1; number <= 43; number++) {
            if (Bounds.acts().contains(number)) continue;
            int asked = number;
            Bounds.refused("may(" + number + ")", Bounds::busy, Bounds.UNKNOWN, x -> x.may(asked));
        }
        for (int number : Bounds.beyond(0, 41)) Bounds.refused("may(" + number + ")", Bounds::busy, Bounds.UNKNOWN, x -> x.may(number));
    }

    private static void tonOrRoomDoesNotMatter() {
        EvenHold empty = Bounds.with("b00,b00,b00;99");
        EvenHold full = Bounds.with("b33,b33,b33;99");
        for (int act : Bounds.acts()) {
            Bounds.due("may(" + act + ") without a ton", empty.may(act), 0);
            if (act >= 6) Bounds.due("may(" + act + ") without room", full.may(act), 0);
        }
        for (int number : new int[] {-1, 6, 10, 30, 41, 42}) {
            Bounds.due("may(" + number + ") without a ton", empty.may(number), Bounds.UNKNOWN);
            Bounds.due("may(" + number + ") without room", full.may(number), Bounds.UNKNOWN);
        }
    }

    private static void mayWithoutAHold() {
        for (int number = -1; number <= 42; number++) Bounds.due("may(" + number + ")", Bounds.bare().may(number), Bounds.UNKNOWN);
        Bounds.refused("may(0)", Bounds::bare, Bounds.UNKNOWN, x -> x.may(0));
    }

    private static void mayIsOnlyAsked() {
        EvenHold x = Bounds.busy();
        EvenHold y = Bounds.busy();
        for (int act : Bounds.acts()) x.may(act);
        Bounds.due("digest() behind all that was asked", x.digest(), y.digest());
    }

    // ---- 11 act

    private static void minutesThen() {
        EvenHold x = Bounds.with("n11,f11,d11;99");
        int[][] rows = {{0, 1}, {2, 4}, {4, 8}, {15, 10}, {39, 13}, {3, 16}, {3, 19}, {3, 22}};
        for (int[] row : rows) {
            Bounds.due("act(" + row[0] + ")", x.act(row[0]), row[1]);
            Bounds.due("count(4) then", x.count(4), row[1]);
        }
        Bounds.due("count(2) then", x.count(2), 0);
        Bounds.due("count(3) then", x.count(3), 6);
        for (int act : Bounds.acts()) Bounds.due("act(" + act + ") of none", x.act(act), Bounds.STATE);
    }

    private static void actUnknown() {
        for (int number = -1; number <= 43; number++) {
            if (Bounds.acts().contains(number)) continue;
            int asked = number;
            Bounds.refused("act(" + number + ")", Bounds::busy, Bounds.UNKNOWN, x -> x.act(asked));
        }
        for (int number : Bounds.beyond(0, 41)) Bounds.refused("act(" + number + ")", Bounds::busy, Bounds.UNKNOWN, x -> x.act(number));
        for (int act : Bounds.acts()) Bounds.refused("act(" + act + ") without a hold", Bounds::bare, Bounds.UNKNOWN, x -> x.act(act));
        Bounds.refused("act(6) without a hold", Bounds::bare, Bounds.UNKNOWN, x -> x.act(6));
    }

    private static void mayNotBeDone() {
        Bounds.refused("act(1) without a ton", () -> Bounds.with("h20,b11,b11;99"), Bounds.STATE, x -> x.act(1));
        Bounds.refused("act(7) without room", () -> Bounds.with("b13,b11,b11;99"), Bounds.STATE, x -> x.act(7));
        Bounds.refused("act(0) too BENT", () -> Bounds.with("b11,b11,b11;09"), Bounds.STATE, x -> x.act(0));
        Bounds.refused("act(0) too much LISTING", () -> Bounds.with("b11,b11,b11;90"), Bounds.STATE, x -> x.act(0));
        Bounds.refused("act(5) too much LISTING by what slid", () -> Bounds.with("h20,b01,b02;90"), Bounds.STATE, x -> x.act(5));
        Bounds.refused("act(1) in the midst", Bounds::busy, Bounds.STATE, x -> x.act(1));
        EvenHold x = Bounds.with("b11,b11,b11;19");
        x.ground(true);
        Bounds.due("act(0) aground", x.act(0), Bounds.STATE);
        x.ground(false);
        Bounds.due("act(0) afloat", x.act(0), 2);
    }

    private static void mayAndActAgree() {
        for (String hold : new String[] {"n21,h12,d03;53", "h30,h03,h30;42", "b33,b33,b33;22", "d20,b31,f02;99", "b12,h21,b12;11"}) {
            for (int act : Bounds.acts()) {
                EvenHold x = Bounds.with(hold);
                int may = x.may(act);
                Bounds.due("act(" + act + ") of " + hold + " is done", x.act(act) > 0 ? 1 : 0, may);
                Bounds.due("she BEARS what is behind it, if it was done", may == 1 ? x.hull(2) : 1, 1);
            }
        }
    }

    private static void actLeavesTheRest() {
        EvenHold x = Bounds.busy();
        Bounds.due("act(0)", x.act(0), 6);
        Bounds.due("count(5)", x.count(5), 1);
        Bounds.due("count(6): the STRING is as told", x.count(6), 3);
        Bounds.due("count(7)", x.count(7), 2);
        Bounds.due("count(9)", x.count(9), 1);
        Bounds.due("restore(): the IMAGE is as kept", x.restore(), 1);
    }

    // ---- 12 soonest

    private static void fewestMinutes() {
        Bounds.due("n10: 1", Bounds.with("n10,b00,b00;99").soonest(0), 1);
        Bounds.due("d33,d33,d33: 72", Bounds.with("d33,d33,d33;99").soonest(0), 72);
        Bounds.due("a middle that must be carried out of", Bounds.with("b00,b20,b00;19").soonest(0), 6);
        Bounds.due("into the NEAR stern: 2, 2, 1", Bounds.with("b00,b20,n00;19").soonest(0), 5);
        Bounds.due("out of the DEEP middle: 3, 4, 2", Bounds.with("b00,d20,b00;19").soonest(0), 9);
        Bounds.due("not into the FAR bow: 2, 2, 2", Bounds.with("f00,b20,b00;19").soonest(0), 6);
    }

    private static void leastFirst() {
        Bounds.due("of both", Bounds.with("b11,b00,b00;99").soonest(1), 0);
        Bounds.due("of the right side alone", Bounds.with("b01,b01,b00;99").soonest(1), 1);
        Bounds.due("of taking and carrying into a NEAR one, that last alike", Bounds.with("b00,n00,d01;99").soonest(1), 5);
        Bounds.due("of 0 and 2, though 2 is done sooner", Bounds.with("d10,n10,b00;99").soonest(1), 0);
        Bounds.due("of 1 and 5, though 5 is done sooner", Bounds.with("f01,b00,n01;99").soonest(1), 1);
        Bounds.due("of carrying to either end, that last alike", Bounds.with("b00,b20,b00;19").soonest(1), 18);
        Bounds.due("not one that lasts longer", Bounds.with("b00,b20,n00;19").soonest(1), 22);
        Bounds.due("the one that lasts less, though greater", Bounds.with("f00,b20,b00;19").soonest(1), 22);
        Bounds.due("the greatest ACT of all", Bounds.with("b00,d02,b01;31").soonest(1), 40);
    }

    private static void allIsOut() {
        EvenHold none = Bounds.with("b00,b00,b00;00");
        Bounds.due("soonest(0) of none", none.soonest(0), 0);
        Bounds.due("soonest(1) of none", none.soonest(1), Bounds.NONE);
        EvenHold x = Bounds.with("b10,b00,b00;11");
        Bounds.due("soonest(0) of one", x.soonest(0), 2);
        Bounds.due("soonest(1) of one", x.soonest(1), 0);
        x.act(0);
        Bounds.due("soonest(0) of none then", x.soonest(0), 0);
        Bounds.due("soonest(1) of none then", x.soonest(1), Bounds.NONE);
    }

    private static void never() {
        for (String hold : new String[] {"b11,b11,b11;00", "b11,b00,b00;09", "b11,b00,b00;90", "b33,b33,b33;90"}) {
            Bounds.due("soonest(0) of " + hold, Bounds.with(hold).soonest(0), Bounds.NONE);
            Bounds.due("soonest(1) of " + hold, Bounds.with(hold).soonest(1), Bounds.NONE);
        }
    }

    private static void soonestAground() {
        EvenHold x = Bounds.with("b11,b11,b11;19");
        Bounds.due("soonest(0)", x.soonest(0), 12);
        Bounds.due("soonest(1)", x.soonest(1), 0);
        x.ground(true);
        Bounds.due("soonest(0) aground", x.soonest(0), Bounds.NONE);
        Bounds.due("soonest(1) aground", x.soonest(1), Bounds.NONE);
        x.ground(false);
        Bounds.due("soonest(0) afloat again", x.soonest(0), 12);
        EvenHold y = Bounds.with("b00,b20,b00;39");
        Bounds.due("soonest(0): BENT by 2 may be", y.soonest(0), 4);
        y.ground(true);
        Bounds.due("soonest(0) aground: by 1 only", y.soonest(0), 6);
        Bounds.due("soonest(1) aground", y.soonest(1), 18);
    }

    private static void soonestFromNow() {
        EvenHold x = Bounds.with("n21,h12,d03;53");
        int before = x.soonest(0);
        Bounds.due("soonest(0)", before, 21);
        for (int n = 0; n < 18 && x.soonest(1) != Bounds.NONE; n++) {
            int spent = x.count(4);
            int then = x.act(x.soonest(1));
            Bounds.due("soonest(0) behind the first act of it", x.soonest(0), before - (then - spent));
            before = x.soonest(0);
        }
        Bounds.due("MINUTES then", x.count(4), 21);
        Bounds.due("tons then", x.count(2), 0);
    }

    /** As told and as counted: whoever is asked twice answers the same, and nothing is done by asking. */
    private static void onlyWouldBe() {
        EvenHold x = Bounds.busy();
        EvenHold y = Bounds.busy();
        for (int twice = 0; twice < 2; twice++) {
            Bounds.due("soonest(0)", x.soonest(0), y.soonest(0));
            Bounds.due("most()", x.most(), 8);
            Bounds.due("holds()", x.holds(), y.holds());
        }
        y = Bounds.busy();
        Bounds.due("digest()", x.digest(), y.digest());
    }

    private static void soonestOutside() {
        for (int what : Bounds.beyond(0, 1)) Bounds.refused("soonest(" + what + ")", Bounds::busy, Bounds.OUTSIDE, x -> x.soonest(what));
    }

    private static void soonestWithoutAHold() {
        Bounds.refused("soonest(0)", Bounds::bare, Bounds.STATE, x -> x.soonest(0));
        Bounds.refused("soonest(1)", Bounds::bare, Bounds.STATE, x -> x.soonest(1));
    }

    private static void soonestOutsideFirst() {
        for (int what : Bounds.beyond(0, 1)) Bounds.refused("soonest(" + what + ")", Bounds::bare, Bounds.OUTSIDE, x -> x.soonest(what));
    }

    // ---- 13 most

    private static void mostTons() {
        Bounds.due("most() of none", Bounds.with("b00,b00,b00;99").most(), 0);
        Bounds.due("most() of one", Bounds.with("b00,b00,b01;11").most(), 1);
        Bounds.due("most() of all 18", Bounds.with("d33,h33,b33;22").most(), 18);
        Bounds.due("most() where none can be", Bounds.with("b11,b11,b11;00").most(), 0);
        // With LIST 0 each taken ton has to leave an even number.
        Bounds.due("most() where one of three can be", Bounds.with("b21,b00,b00;90").most(), 1);
        // BEND 0: with one ton of an end out she is even, and then no second one can be out.
        Bounds.due("most() where one of four can be", Bounds.with("b11,b10,b10;09").most(), 1);
        // A ton carried is none that is out.
        EvenHold carried = Bounds.with("b11,b00,b00;29");
        carried.act(7);
        Bounds.due("most() behind carrying", carried.most(), 2);
    }

    private static void mostFromNow() {
        EvenHold x = Bounds.with("b11,b11,b11;99");
        for (int cell = 0; cell < 6; cell++) {
            Bounds.due("most() behind " + cell, x.most(), 6 - cell);
            x.act(cell);
        }
        Bounds.due("most() of none", x.most(), 0);
        EvenHold rock = Bounds.with("b10,b00,b10;19");
        Bounds.due("most()", rock.most(), 2);
        rock.ground(true);
        Bounds.due("most() aground", rock.most(), 0);
    }

    // ---- 14 holds

    private static void howManyWays() {
        Bounds.due("holds() of none", Bounds.with("b00,b00,b00;99").holds(), 1);
        Bounds.due("holds() of what can't move, borne", Bounds.with("b11,b11,b11;00").holds(), 1);
        Bounds.due("holds() of what can't move, not borne", Bounds.with("b33,b00,b00;00").holds(), 1);
        Bounds.due("holds() of one ton: six cells, and out", Bounds.with("b10,b00,b00;99").holds(), 7);
        Bounds.due("holds() of one ton: its own bay, and out", Bounds.with("b10,b00,b00;19").holds(), 3);
        Bounds.due("holds() of one ton: now and out", Bounds.with("b10,b00,b00;09").holds(), 2);
        // Each way of 0 to 3 tons in six cells that BENT 9 bears, and how they lie now.
        int borne = 0;
        for (int lying = 0; lying < 4096; lying++) {
            int ends = (lying & 3) + (lying >> 2 & 3) + (lying >> 8 & 3) + (lying >> 10 & 3);
            if (Math.abs(ends - 2 * ((lying >> 4 & 3) + (lying >> 6 & 3))) <= 9) borne++;
        }
        Bounds.due("holds() of all 18", Bounds.with("b33,b33,b33;99").holds(), borne);
    }

    /** A way that is come to slowly first and sooner later, as by a DEEP middle, is one way. */
    private static void unlikeWays() {
        for (int kinds = 0; kinds < 125; kinds++) {
            String told = "" + "bnfhd".charAt(kinds % 5) + "bnfhd".charAt(kinds / 5 % 5) + "bnfhd".charAt(kinds / 25);
            for (int cell = 0; cell < 6; cell++) {
                int[] cells = new int[6];
                cells[cell] = 1;
                String hold = Bounds.text(told, cells, 9, 9);
                Bounds.due("holds() of " + hold + ": six cells, and out", Bounds.with(hold).holds(), 7);
            }
        }
    }

    private static void asTheyDoNowToo() {
        // She does not bear how they lie now, and can't come back to it.
        EvenHold x = Bounds.with("b00,b10,b00;19");
        Bounds.due("holds(): now, carried to four cells, out", x.holds(), 1 + 4 + 1);
        x.act(18);
        Bounds.due("holds() from an end: two cells, out", x.holds(), 3);
        // She bears it, and does come back to it: it is counted once.
        EvenHold y = Bounds.with("b10,b00,b00;19");
        y.act(7);
        Bounds.due("holds() from the other side", y.holds(), 3);
    }

    private static void holdsFromNow() {
        EvenHold x = Bounds.with("b10,b00,b00;29");
        Bounds.due("holds()", x.holds(), 7);
        x.ground(true);
        Bounds.due("holds() aground", x.holds(), 3);
        x.ground(false);
        Bounds.due("holds() afloat again", x.holds(), 7);
        x.act(0);
        Bounds.due("holds() of none", x.holds(), 1);
    }

    private static void withoutAHold() {
        Bounds.refused("most()", Bounds::bare, Bounds.STATE, x -> x.most());
        Bounds.refused("holds()", Bounds::bare, Bounds.STATE, x -> x.holds());
        Bounds.refused("leastBend()", Bounds::bare, Bounds.STATE, x -> x.leastBend());
    }

    // ---- 15 leastBend

    private static void byHowSmall() {
        String[] holds = {
            "b10,b00,b00;91", "b20,b00,b00;01", "b30,b00,b00;02", "b30,b00,b00;01", "b00,b30,b00;02",
            "b10,b30,b00;02", "b00,b30,b00;01", "b10,b31,b00;01", "b20,b32,b00;01", "b00,b33,b00;01"
        };
        for (int least = 0; least < holds.length; least++) {
            String hold = holds[least];
            Bounds.due("leastBend() of " + hold, Bounds.with(hold).leastBend(), least);
            for (int bend = 0; bend <= 9; bend++) {
                EvenHold x = Bounds.with(hold.substring(0, 12) + bend + hold.charAt(13));
                Bounds.due("BEND as read does not matter", x.leastBend(), least);
                Bounds.due("emptied by BEND " + bend + " of " + least, x.soonest(0) != Bounds.NONE ? 1 : 0, bend >= least ? 1 : 0);
            }
        }
    }

    private static void leastBendOfNone() {
        Bounds.due("leastBend() of none", Bounds.with("b00,b00,b00;90").leastBend(), 0);
        EvenHold x = Bounds.with("b00,b33,b00;91");
        Bounds.due("leastBend() as read", x.leastBend(), 9);
        x.act(18);
        x.act(3);
        // BENT by 7; the next ACT brings it to 4 at the least, one from the middle carried to an end.
        Bounds.due("leastBend() from now", x.leastBend(), 4);
    }

    private static void notAground() {
        EvenHold x = Bounds.with("b00,b20,b00;99");
        Bounds.due("leastBend()", x.leastBend(), 1);
        x.ground(true);
        Bounds.due("leastBend() aground", x.leastBend(), 1);
        Bounds.due("count(5): she is yet", x.count(5), 1);
        Bounds.due("hull(3): by half yet", x.hull(3), 4);
    }

    private static void notEvenByTwelve() {
        Bounds.due("leastBend() with LIST 0", Bounds.with("b11,b00,b00;90").leastBend(), Bounds.NONE);
        Bounds.due("leastBend() with LIST 1", Bounds.with("b11,b00,b00;91").leastBend(), 1);
        Bounds.due("leastBend() of LISTING 9 with LIST 7", Bounds.with("b30,b30,b30;07").leastBend() >= 0 ? 1 : 0, 1);
        Bounds.due("leastBend() of LISTING 9 with LIST 6", Bounds.with("b30,b30,b30;06").leastBend(), Bounds.NONE);
    }

    private static EvenHold eased(int times) {
        EvenHold x = Bounds.busy();
        for (int n = x.count(9); n < times; n++) x.leastBend();
        return x;
    }

    private static void twelveTimesEver() {
        EvenHold x = Bounds.with("b20,b00,b00;99");
        for (int n = 1; n <= 12; n++) {
            Bounds.due("leastBend() as " + n, x.leastBend(), 1);
            Bounds.due("count(9)", x.count(9), n);
        }
        Bounds.refused("leastBend() as 13", () -> eased(12), Bounds.STATE, y -> y.leastBend());
        Bounds.due("leastBend() as 12, in the midst", eased(11).leastBend() >= 0 ? 1 : 0, 1);
        for (int n = 0; n < 20; n++) Bounds.due("leastBend(), again and again", x.leastBend(), Bounds.STATE);
        Bounds.due("count(9)", x.count(9), 12);
    }

    private static void ever() {
        EvenHold x = Bounds.with("b20,b00,b00;99");
        x.image();
        for (int n = 1; n <= 6; n++) x.leastBend();
        x.restore();
        Bounds.due("count(9) behind restore()", x.count(9), 6);
        Bounds.typed(x, "b00,b10,b00;99").hold();
        Bounds.due("count(9) with another hold", x.count(9), 6);
        for (int n = 7; n <= 12; n++) Bounds.due("leastBend() as " + n, x.leastBend(), 0);
        Bounds.due("leastBend() as 13", x.leastBend(), Bounds.STATE);
        Bounds.typed(x, "b00,b10,b00;99").hold();
        Bounds.due("leastBend() as 13, with another hold", x.leastBend(), Bounds.STATE);
    }

    private static void refusalsDoNotCount() {
        EvenHold x = new EvenHold();
        for (int n = 0; n < 30; n++) Bounds.due("leastBend() without a hold", x.leastBend(), Bounds.STATE);
        Bounds.due("count(9)", x.count(9), 0);
        Bounds.typed(x, "b20,b00,b00;99").hold();
        for (int n = 1; n <= 12; n++) Bounds.due("leastBend() as " + n, x.leastBend(), 1);
        Bounds.due("leastBend() as 13", x.leastBend(), Bounds.STATE);
    }

    private static void allElseDoes() {
        EvenHold x = Bounds.with("b11,b00,b00;90");
        for (int n = 1; n <= 12; n++) {
            Bounds.due("leastBend() as " + n + ", none", x.leastBend(), Bounds.NONE);
            Bounds.due("count(9)", x.count(9), n);
        }
        Bounds.due("leastBend() as 13", x.leastBend(), Bounds.STATE);
        EvenHold y = Bounds.with("b00,b00,b00;00");
        y.leastBend();
        Bounds.due("count(9): what answers 0 counts", y.count(9), 1);
        y.digest();
        y.soonest(0);
        Bounds.due("count(9): digest() does not count", y.count(9), 1);
    }

    private static void actSentences() {
        Bounds.sentence("10 Whether an ACT may be done (1, 0)", ActsBoundsTest::mayOneOrNone);
        Bounds.sentence("10 UNKNOWN: it is none", ActsBoundsTest::mayUnknown);
        Bounds.sentence("10 (whether a ton is there, or room, does not matter for that)", ActsBoundsTest::tonOrRoomDoesNotMatter);
        Bounds.sentence("10 (also without a HOLD)", ActsBoundsTest::mayWithoutAHold);
        Bounds.sentence("10 may() is only told", ActsBoundsTest::mayIsOnlyAsked);
        Bounds.sentence("11 An ACT: MINUTES then", ActsBoundsTest::minutesThen);
        Bounds.sentence("11 UNKNOWN", ActsBoundsTest::actUnknown);
        Bounds.sentence("11 STATE: it may not be done", ActsBoundsTest::mayNotBeDone);
        Bounds.sentence("11 it may be done: as may() tells", ActsBoundsTest::mayAndActAgree);
        Bounds.sentence("11 An ACT (nothing else)", ActsBoundsTest::actLeavesTheRest);
    }

    private static void wouldBeSentences() {
        Bounds.sentence("12 fewest MINUTES until all is out", ActsBoundsTest::fewestMinutes);
        Bounds.sentence("12 the first ACT of all rows that last no longer: the least", ActsBoundsTest::leastFirst);
        Bounds.sentence("12 (0: all is out), (NONE: all is out)", ActsBoundsTest::allIsOut);
        Bounds.sentence("12 NONE: never", ActsBoundsTest::never);
        Bounds.sentence("12 AGROUND or not as now", ActsBoundsTest::soonestAground);
        Bounds.sentence("12 one behind the other, from now", ActsBoundsTest::soonestFromNow);
        Bounds.sentence("12 what would be", ActsBoundsTest::onlyWouldBe);
        Bounds.sentence("12 OUTSIDE", ActsBoundsTest::soonestOutside);
        Bounds.sentence("12 STATE: no HOLD", ActsBoundsTest::soonestWithoutAHold);
        Bounds.sentence("12 of several the first: OUTSIDE, STATE", ActsBoundsTest::soonestOutsideFirst);
        Bounds.sentence("13 how many tons can be TAKEN out at most", ActsBoundsTest::mostTons);
        Bounds.sentence("13 AGROUND or not as now; from now", ActsBoundsTest::mostFromNow);
        Bounds.sentence("14 how many unlike ways tons can lie can be come to", ActsBoundsTest::howManyWays);
        Bounds.sentence("14 unlike ways (each counted once)", ActsBoundsTest::unlikeWays);
        Bounds.sentence("14 (as they do now, too)", ActsBoundsTest::asTheyDoNowToo);
        Bounds.sentence("14 AGROUND or not as now; from now", ActsBoundsTest::holdsFromNow);
        Bounds.sentence("13, 14, 15 STATE: no HOLD", ActsBoundsTest::withoutAHold);
    }

    private static void leastBendSentences() {
        Bounds.sentence("15 by how small a BEND she could be emptied, all else as it is", ActsBoundsTest::byHowSmall);
        Bounds.sentence("15 0: of none; from now", ActsBoundsTest::leastBendOfNone);
        Bounds.sentence("15 not AGROUND", ActsBoundsTest::notAground);
        Bounds.sentence("15 none: not even by 12", ActsBoundsTest::notEvenByTwelve);
        Bounds.sentence("15 STATE: leastBend() was done 12 times", ActsBoundsTest::twelveTimesEver);
        Bounds.sentence("15 ever", ActsBoundsTest::ever);
        Bounds.sentence("15 refusals do not count", ActsBoundsTest::refusalsDoNotCount);
        Bounds.sentence("15 all else does", ActsBoundsTest::allElseDoes);
    }

    public static void main(String[] args) {
        actSentences();
        wouldBeSentences();
        leastBendSentences();
        Bounds.end();
    }
}
