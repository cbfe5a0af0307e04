/** The document's boundaries by its sentences: ways, choices, told states, the book, signs (promises 19 to 43, 45). */
public final class TossGroundWaysEdgeTest extends TossGroundSentences {

    // ---- grounds on which the ways can be counted by hand

    /** Two slots of 4 runs, two of 1 out: 3 behind with 9 out in the only session, 2 ways win and 2 lose; held, all 4 are draws. */
    static TossGround holdGround(int drawWorth) {
        return told("sessions 1;drawworth " + drawWorth, halves(1, 4, 1));
    }

    /** Slots 0 and 1 bring runs alone, 2 and 3 outs alone. */
    static String halves(int level, int runs, int outs) {
        return times("slot " + level + " # runs " + runs + " outs 0", 2, ";") + ";" + "slot " + level + " 2 runs 0 outs " + outs + ";slot " + level + " 3 runs 0 outs " + outs;
    }

    /**
     * Nothing comes but in innings 3: there 9 runs or 9 out. Two sessions ahead of the end, and 5 ahead, by declaring
     * 4 of 16 ways win and 12 lose; by going on all are draws.
     */
    static TossGround declareGround(int drawWorth) {
        return lawOf(told("sessions 2;drawworth " + drawWorth, flat(1, 0, 0), halves(2, 9, 9)), "hard 1;hard 1 if innings > 2");
    }

    /** The same in a match: 5 runs in innings 0, innings 2 is not fresh, two sessions are left. */
    static TossGround declareMatch(int drawWorth) {
        TossGround x = lawOf(told("sessions 5;drawworth " + drawWorth, flat(0, 5, 0), flat(1, 0, 0), halves(2, 9, 9)), "hard 1 if innings > 0;hard 1 if innings > 2");
        x.toss(0);
        return declared(declared(bring(x, 0), 0), 0);
    }

    /** Declares, and brings slots behind that. */
    static TossGround declared(TossGround x, int... slots) {
        x.declare();
        return bring(x, slots);
    }

    /**
     * Innings 2 is asked for a follow on, with a lead of 5 and three sessions left: made, side 1 is out in two,
     * and side 0 wins all ways; else all are draws.
     */
    static TossGround followMatch(int drawWorth) {
        TossGround x = told("sessions 5;margin 5;drawworth " + drawWorth, flat(0, 0, 0), flat(1, 0, 5), flat(2, 5, 0));
        lawOf(x, "hard 2 if innings < 1;hard 1 if innings > 1 and innings < 3 and side > 0");
        x.toss(0);
        return declared(declared(bring(x, 0), 0));
    }

    /** Innings 3, side 1 is 3 behind with 9 out, one session is left: as on the holdGround. */
    static TossGround holdMatch(int drawWorth) {
        TossGround x = told("sessions 5;drawworth " + drawWorth, flat(0, 3, 0), flat(1, 0, 0), halves(2, 4, 1), flat(3, 0, 9));
        lawOf(x, "hard 1 if innings > 0;hard 2 if innings > 2 and session < 4;hard 1 if innings > 2 and session > 3");
        x.toss(0);
        return declared(declared(declared(bring(x, 0), 0), 0), 0);
    }

    /** If side 0 bats first, it wins all 1024 ways; if side 1 does, all are draws. */
    static TossGround tossGround(int drawWorth) {
        TossGround x = told("sessions 5;margin 5;drawworth " + drawWorth, flat(0, 0, 9), flat(1, 0, 0), flat(2, 9, 9));
        return lawOf(x, "hard 1 if side > 0 and innings < 1;hard 2 if side < 1");
    }

    /** The same the other way round. */
    static TossGround turnedTossGround(int drawWorth) {
        return lawOf(tossGround(drawWorth), "hard 1 if side < 1 and innings < 1;hard 2 if side > 0");
    }

    /** Who bats first makes 1 run each session, the other one 5, all are out in two: who fields wins all 65536 ways. */
    static TossGround fieldGround() {
        return lawOf(told(flat(0, 5, 9), flat(1, 1, 9), "sessions 8;margin 99;drawworth 10"), "hard 1 if innings < 1 or innings > 1 and innings < 3");
    }

    static void toss(TossGround x, int side, long bats, long fields, long better, long left) {
        due("side " + side + " bats", x.worth(side, 0), bats);
        due("side " + side + " fields", x.worth(side, 1), fields);
        due("side " + side + ", the better less the other one", x.worth(side, 2), better);
        due("left to side " + side, x.worth(side, 3), left);
    }

    static void here(String what, TossGround x, long side0, long side1, long nobody) {
        due(what + ": side 0", x.here(0), side0);
        due(what + ": side 1", x.here(1), side1);
        due(what + ": nobody", x.here(2), nobody);
        due(what + ": all", x.here(3), side0 + side1 + nobody);
    }

    static void wins(String what, TossGround x, int played, int innings, boolean followed, int lead, int out, long... want) {
        for (int i = 0; i < 3; i++) due(what + ", wins what " + i, x.wins(played, innings, followed, lead, out, i), want[i]);
    }

    // ---- all ways

    static void allWays() {
        says("all ways in which they can come are 4 times 4 .. (1, if none is left)", () -> {
            for (int sessions = 1; sessions <= 9; sessions++) {
                TossGround x = tell(told("sessions " + sessions), flat(1, 0, 0));
                x.toss(0);
                for (int left = sessions; left > 0; left--) {
                    due(left + " left", x.here(3), 1L << 2 * left);
                    due(left + " left, blind", x.blind(3), 1L << 2 * left);
                    due(left + " left, behind the next", x.after(3, 3), 1L << 2 * left - 2);
                    x.bring(0);
                }
                here("none is left", x, 0, 0, 1);
                due("blind, none is left", x.blind(2) * 10 + x.blind(3), 11);
            }
        });
        says("each as likely as the others", () -> {
            for (int slot = 0; slot < 4; slot++) {
                TossGround x = told("sessions 1", flat(1, 0, 0), "slot 1 " + slot + " runs 1 outs 0");
                wins("slot " + slot + " wins", x, 0, 3, false, 0, 0, 1, 0, 3);
            }
        });
        says("(In ways in which THE MATCH is OVER, all that SESSIONS left can bring count so.)", () -> {
            here("side 1 won, three left", duel(9, 0, 0, 0, 3, 0, 0, 0), 0, 64, 0);
            here("side 0 won, three left", duel(9, 1, 0, 0, 3, 0, 0, 0), 64, 0, 0);
            here("a draw, one left", duel(9, 0, 0, 0, 0, 0, 0, 0, 0, 0), 0, 0, 4);
            TossGround x = told("sessions 2", flat(1, 0, 0), "slot 1 0 runs 1 outs 0");
            wins("won by the first of two, or by the second", x, 0, 3, false, 0, 0, 7, 0, 9);
            TossGround y = told("sessions 2", flat(1, 0, 9));
            wins("lost by the first of two", y, 0, 3, false, -1, 9, 0, 16, 0);
            wins("a draw by the first of two", y, 0, 3, false, 0, 9, 0, 0, 16);
        });
        says("WORTH to a SIDE: 100 times the ways in which it wins and DRAWWORTH times those of a draw", () -> {
            due("wins alone", tossGround(0).worth(0, 0), 102400);
            due("losses alone", tossGround(0).worth(1, 1), 0);
            due("draws alone", told("sessions 1;drawworth 7").worth(1, 0), 28);
            due("2 wins, less 4 draws", holdMatch(49).cost(3), 200 - 196);
            due("4 draws, less 2 wins", holdMatch(51).cost(0), 204 - 200);
        });
    }

    // ---- the captains' choices

    static void choices() {
        says("ahead of each SESSION the SIDE that bats DECLARES, if it may and that is WORTH more to it than not", () -> {
            wins("400 and 384", declareGround(24), 0, 2, false, 5, 0, 4, 12, 0);
            wins("400 and 400", declareGround(25), 0, 2, false, 5, 0, 0, 0, 16);
            wins("400 and 416", declareGround(26), 0, 2, false, 5, 0, 0, 0, 16);
            here("400 and 384", declareMatch(24), 4, 12, 0);
            here("400 and 400", declareMatch(25), 0, 0, 16);
            TossGround fresh = declareMatch(24);
            fresh.undo();
            due("it may not, if fresh", fresh.here(0), fresh.after(0, 0) + fresh.after(1, 0) + fresh.after(2, 0) + fresh.after(3, 0));
        });
        says("if FOLLOW ON may be made, the SIDE that batted first makes it, if that is WORTH more to it than not", () -> {
            here("6400 and 6336", followMatch(99), 64, 0, 0);
            here("6400 and 6400", followMatch(100), 0, 0, 64);
            here("it may not", tell(followMatch(99), "margin 6"), 0, 0, 64);
            here("it did", followed(followMatch(100)), 64, 0, 0);
        });
        says("in INNINGS 3 the SIDE that bats HOLDS a SESSION, if that is WORTH more to it than not", () -> {
            wins("196 and 200", holdGround(49), 0, 3, false, -3, 9, 2, 2, 0);
            wins("200 and 200", holdGround(50), 0, 3, false, -3, 9, 2, 2, 0);
            wins("204 and 200", holdGround(51), 0, 3, false, -3, 9, 0, 0, 4);
            here("200 and 200", holdMatch(50), 2, 2, 0);
            here("204 and 200", holdMatch(51), 0, 0, 4);
            TossGround one = told("sessions 1;drawworth 67", "slot 1 0 runs 4 outs 0;slot 1 1 runs 4 outs 0;slot 1 2 runs 0 outs 1;slot 1 3 runs 0 outs 0");
            wins("268 and 267", one, 0, 3, false, -3, 9, 0, 0, 4);
            due("268 and 267", one.holds(0, false, -3, 9), true);
            wins("264 and 266", tell(one, "drawworth 66"), 0, 3, false, -3, 9, 2, 1, 1);
            due("264 and 266", one.holds(0, false, -3, 9), false);
        });
        says("All are counted, both captains choosing best from now on", () -> {
            TossGround x = told("sessions 2", flat(1, 0, 2));
            due("now or later: it may hold later", x.holds(0, false, -1, 6), false);
            due("it may hold later", x.turnover(0, 6), 81);
            due("it must hold now", x.turnover(0, 7), 0);
            wins("held once", x, 0, 3, false, -1, 6, 0, 0, 16);
            TossGround y = told("sessions 2", flat(1, 0, 5));
            due("5 and 4 out, held once", y.chased(0), 81);
            due("declaring wins nothing, as it is held", y.declares(0, 2, false, 5, 0), false);
            due("by no lead", y.when(0, 0), -99);
            due("by a drawworth of 0 nobody holds", y.line(0, 2, false, 5, 0), 1);
            TossGround z = lawOf(followMatch(40), "hard 2 if innings < 1;hard 1 if innings > 1 and side > 0");
            tell(z, flat(1, 0, 9));
            due("declaring later is as good as a follow on", z.enforces(2, 5), false);
            here("declared later", z, 64, 0, 0);
            due("so that costs nothing", z.cost(0) + z.cost(2), 0);
            due("behind the next session it is declared", z.after(0, 0), 16);
            due("no slot is better", z.turning(false) * 10 + z.turning(true), 0);
        });
        says("OUT: how many are in this INNINGS", () -> {
            TossGround x = told("sessions 5", flat(0, 3, 0), flat(1, 0, 0), flat(2, 0, 2), flat(3, 0, 9));
            lawOf(x, "hard 1 if innings > 0;hard 2 if innings > 2 and session < 4;hard 1 if innings > 2 and session > 3");
            x.toss(0);
            declared(declared(declared(bring(x, 0), 0), 0));
            here("8 and 1 are 9, held twice", x, 0, 0, 16);
            due("not held: 9 and 1 are 10", x.cost(0), 640);
            due("held", x.cost(3), 0);
            due("never held", x.blind(0), 16);
        });
    }

    static TossGround followed(TossGround x) {
        x.follow();
        return x;
    }

    // ---- here, and what a toss is worth

    static void hereAndToss() {
        says("HERE what 0 SIDE 0 wins, 1 SIDE 1, 2 nobody, 3 all. IllegalStateException: ahead of the TOSS; NoSuchElementException: another what", () -> {
            within("what", ELEMENT, 0, 3, n -> duel(9, 0).here(n));
            within("what, over", ELEMENT, 0, 3, n -> duel(1, 0, 0).here(n));
            refuses("ahead of the toss", STATE, () -> new TossGround().here(0));
            refuses("neither is", STATE, () -> new TossGround().here(4));
            here("over, none left", duel(7, 0, 0, 0, 0, 0, 0, 0, 3), 0, 1, 0);
        });
        says("TOSS, as a new MATCH: WORTH to a SIDE, if it bats first; if it fields; the better less the other one", () -> {
            TossGround x = tossGround(40);
            toss(x, 0, 102400, 40960, 61440, 40960);
            toss(x, 1, 40960, 0, 40960, 0);
            toss(turnedTossGround(40), 1, 102400, 40960, 61440, 40960);
            toss(turnedTossGround(40), 0, 40960, 0, 40960, 0);
            toss(fieldGround(), 0, 0, 6553600, 6553600, 0);
            toss(fieldGround(), 1, 0, 6553600, 6553600, 0);
            x.toss(1);
            toss(bring(x, 0), 0, 102400, 40960, 61440, 40960);
            due("both begin level: out level, draws", told("sessions 8;margin 99", flat(1, 0, 9)).worth(0, 0), 40 * 65536);
        });
        says("LEFT to the other one: WORTH that a SIDE has, if the other one chooses the better for itself (a tie: bats)", () -> {
            toss(tossGround(0), 0, 102400, 0, 102400, 0);
            toss(tossGround(0), 1, 0, 0, 0, 0);
            toss(turnedTossGround(0), 1, 102400, 0, 102400, 0);
            toss(turnedTossGround(0), 0, 0, 0, 0, 0);
        });
        says("what 0 it bats first, 1 it fields, 2 the better less the other one, 3 LEFT to the other one. NoSuchElementException: another what", () -> {
            within("side", INDEX, 0, 1, n -> told("sessions 1").worth(n, 0));
            within("what", ELEMENT, 0, 3, n -> told("sessions 1").worth(1, n));
            refuses("neither is", INDEX, () -> told("sessions 1").worth(2, 4));
        });
        says("EVENS of a SIDE: its WORTH, if it chooses the better for itself, and LEFT, together", () -> {
            due("102400 and 40960", tossGround(40).evens(0), 143360);
            due("40960 and 0", tossGround(40).evens(1), 40960);
            due("102400 and 0, a tie", tossGround(0).evens(0), 102400);
            due("0 and 0", tossGround(0).evens(1), 0);
            due("6553600 by fielding and 0", fieldGround().evens(1), 6553600);
            due("all draws", told("sessions 1").evens(1), 320);
            within("side", INDEX, 0, 1, n -> told("sessions 1").evens(n));
        });
        says("in how many old matches who won the toss chose what is the better for it here now (a tie: either)", () -> {
            String books = "book 0 0 0;book 0 1 0;book 0 1 1;book 1 0 0;book 1 0 1;book 1 0 2;book 1 1 0;book 1 1 1;book 1 1 2;book 1 1 2";
            TossGround x = tossGround(0);
            due("no old matches", x.well(), 0);
            due("side 0 had better bat, side 1 either", tell(x, books).well(), 1 + 7);
            due("side 1 had better bat, side 0 either", tell(turnedTossGround(0), books).well(), 3 + 4);
            due("both had better bat", tell(tossGround(40), books).well(), 1 + 4);
            due("both had better field", tell(fieldGround(), books).well(), 2 + 3);
            due("here now: all are draws", lawOf(x, "hard 1").well(), 10);
        });
    }

    // ---- told states

    static void toldStates() {
        says("SESSIONS PLAYED (0 to S)", () -> {
            for (int sessions : new int[] {1, 6}) {
                TossGround x = told("sessions " + sessions);
                within("wins", INDEX, 0, sessions, n -> x.wins(n, 0, false, 0, 0, 0));
                within("declares", INDEX, 0, sessions, n -> x.declares(n, 0, false, 0, 0));
                within("when", INDEX, 0, sessions, n -> x.when(n, 0));
                within("enforces", INDEX, 0, sessions, n -> x.enforces(n, 0));
                within("chased", INDEX, 0, sessions, n -> x.chased(n));
                within("holds", INDEX, 0, sessions, n -> x.holds(n, false, 0, 0));
                within("turnover", INDEX, 0, sessions, n -> x.turnover(n, 0));
                within("line", INDEX, 0, sessions, n -> x.line(n, 0, false, 0, 0));
            }
            within("of nine", INDEX, 0, 9, n -> told("sessions 9").wins(n, 3, true, 0, 0, 0));
        });
        says("A STATE told: SESSIONS PLAYED (0 to S), INNINGS", () -> {
            within("wins", INDEX, 0, 3, n -> told("sessions 2").wins(0, n, false, 0, 0, 0));
            within("wins, followed on", INDEX, 0, 3, n -> told("sessions 2").wins(0, n, true, 0, 0, 0));
            within("declares", INDEX, 0, 3, n -> told("sessions 2").declares(0, n, false, 0, 0));
            within("line", INDEX, 0, 3, n -> told("sessions 2").line(0, n, false, 0, 0));
        });
        says("whether it followed on (counts in INNINGS 2, 3 alone)", () -> {
            TossGround x = lawOf(told("sessions 1", flat(0, 9, 0), flat(1, 0, 0)), "hard 1 if side > 0");
            wins("side 0 bats in innings 3", x, 0, 3, true, -3, 0, 4, 0, 0);
            wins("side 1 does", x, 0, 3, false, -3, 0, 0, 0, 4);
            due("no innings 3 of innings 1", x.wins(0, 1, true, -3, 0, 2), 4);
            TossGround y = lawOf(declareGround(24), "hard 1;hard 1 if side > 0");
            due("side 1 is to bat behind innings 2", y.declares(0, 2, false, 5, 0), true);
            due("side 0 is, who gets nothing", y.declares(0, 2, true, 5, 0), false);
            wins("no innings 2 of innings 0", declareGround(24), 0, 0, true, 5, 0, 0, 0, 16);
            for (int innings = 0; innings < 2; innings++) {
                TossGround z = duelGround(6);
                for (int lead = -6; lead <= 6; lead++) {
                    for (int what = 0; what < 3; what++) due("innings " + innings, z.wins(1, innings, true, lead, 3, what), z.wins(1, innings, false, lead, 3, what));
                    due("declares", z.declares(1, innings, true, lead, 3), z.declares(1, innings, false, lead, 3));
                    due("line", z.line(4, innings, true, lead, 3), z.line(4, innings, false, lead, 3));
                }
            }
        });
        says("SIDE 0 batted first", () -> {
            TossGround x = lawOf(told("sessions 1;drawworth 51", flat(0, 0, 0), halves(1, 4, 1)), "hard 1 if side > 0");
            due("side 1 holds", x.holds(0, false, -3, 9), true);
            due("side 0, who followed on", x.holds(0, true, -3, 9), false);
            due("side 1 turns over", x.turnover(0, 9), 0);
            wins("side 1 plays for a draw", x, 0, 3, false, -3, 8, 2, 0, 2);
            TossGround y = lawOf(declareGround(24), "hard 1;hard 1 if side > 0");
            due("side 1 chases", y.declares(0, 2, false, 5, 0), true);
            due("side 1 chases", y.when(0, 0), 1);
            due("side 1 chases", y.line(0, 2, false, 5, 0), 25);
            due("side 1 chases, 4 ways of both", y.chased(0), 17);
            due("side 0 made side 1 follow on", followMatch(40).enforces(2, 5), true);
            due("side 0 gets nothing", lawOf(followMatch(40), "hard 2 if innings < 1;hard 1 if innings > 1 and innings < 3 and side < 1").enforces(2, 5), false);
        });
        says("LEAD of the SIDE that bats (-81 to 81)", () -> {
            TossGround x = told("sessions 2");
            for (int innings = 0; innings < 4; innings++) {
                int told = innings;
                within("wins", ARGUMENT, -81, 81, n -> x.wins(0, told, false, n, 0, 0));
            }
            within("declares", ARGUMENT, -81, 81, n -> x.declares(0, 2, false, n, 0));
            within("enforces", ARGUMENT, -81, 81, n -> x.enforces(0, n));
            within("holds", ARGUMENT, -81, 81, n -> x.holds(0, false, n, 0));
            within("line", ARGUMENT, -81, 81, n -> x.line(0, 0, false, n, 0));
            TossGround y = told("sessions 9", flat(1, 9, 1));
            wins("81 behind, nine times 9", y, 0, 3, false, -81, 0, 0, 0, 262144);
            wins("80 behind, nine times 9", y, 0, 3, false, -80, 0, 262144, 0, 0);
            wins("81 behind, 9 out: held, then a draw", y, 0, 3, true, -81, 9, 0, 0, 262144);
        });
        says("OUT 0 to 9, not FRESH", () -> {
            TossGround x = told("sessions 2");
            within("wins", ARGUMENT, 0, 9, n -> x.wins(0, 0, false, 0, n, 0));
            within("declares", ARGUMENT, 0, 9, n -> x.declares(0, 0, false, 0, n));
            within("when", ARGUMENT, 0, 9, n -> x.when(0, n));
            within("holds", ARGUMENT, 0, 9, n -> x.holds(0, false, 0, n));
            within("turnover", ARGUMENT, 0, 9, n -> x.turnover(0, n));
            within("line", ARGUMENT, 0, 9, n -> x.line(0, 0, false, 0, n));
            due("out 0 may be declared", declareGround(24).declares(0, 2, false, 5, 0), true);
            due("out 0 is not asked for a follow on", followMatch(40).wins(2, 2, false, 5, 0, 2), 64);
            due("a fresh one is", followMatch(40).enforces(2, 5), true);
        });
        says("(and not OVER, whatever the LEAD)", () -> {
            TossGround x = told("sessions 1", flat(1, 0, 0));
            wins("81 ahead, won behind the next session", x, 0, 3, false, 81, 0, 4, 0, 0);
            wins("1 ahead, won behind the next session", x, 0, 3, true, 1, 9, 4, 0, 0);
            wins("level", x, 0, 3, false, 0, 9, 0, 0, 4);
            wins("81 ahead, no session is left", x, 1, 3, false, 81, 0, 0, 0, 1);
            wins("81 behind, no session is left", x, 1, 2, true, -81, 9, 0, 0, 1);
            wins("1 ahead, rain", told("sessions 1;rain 0"), 0, 3, false, 1, 9, 4, 0, 0);
        });
        says("WINS what 0 wins, 1 loses, 2 nobody. IllegalArgumentException: LEAD, OUT are none; NoSuchElementException: another what", () -> {
            within("what", ELEMENT, 0, 2, n -> told("sessions 1").wins(0, 0, false, 0, 0, n));
            wins("2, 2 and 0", holdGround(0), 0, 3, false, -3, 9, 2, 2, 0);
            wins("of side 0 that bats behind a follow on", holdGround(0), 0, 3, true, -3, 9, 2, 2, 0);
            refuses("neither is", INDEX, () -> told("sessions 1").wins(2, 0, false, 82, 10, 3));
            refuses("lead and what", ARGUMENT, () -> told("sessions 1").wins(1, 3, false, 82, 0, 3));
            refuses("out and what", ARGUMENT, () -> told("sessions 1").wins(1, 3, false, 81, 10, 3));
        });
    }

    static void declaring() {
        says("DECLARES (false in INNINGS 3, or if no SESSION is left)", () -> {
            due("more", declareGround(24).declares(0, 2, false, 5, 0), true);
            due("as much", declareGround(25).declares(0, 2, false, 5, 0), false);
            due("innings 3, in which it holds", holdGround(51).declares(0, 3, false, -3, 9), false);
            due("no session is left", declareGround(0).declares(2, 2, false, 5, 0), false);
            due("one session is left", declareGround(0).declares(1, 2, false, 5, 0), false);
        });
        says("the least LEAD with which it does, in INNINGS 2 (not followed on), with a told OUT; none", () -> {
            TossGround x = told(flat(1, 1, 9));
            due("2 runs can be made in two sessions", x.when(4, 0), 3);
            due("it does by that", x.declares(4, 2, false, 3, 0), true);
            due("not by one less", x.declares(4, 2, false, 2, 0), false);
            due("9 out", x.when(4, 9), 3);
            due("one session: none", x.when(5, 0), -99);
            due("no session: none", x.when(6, 0), -99);
            TossGround y = lawOf(declareGround(24), "hard 1;hard 1 if side > 0");
            due("4 wins of 16 by any lead of 1 to 8", y.when(0, 0), 1);
            due("by a lead of 0 they would be draws", y.declares(0, 2, false, 0, 0), false);
            TossGround most = told("sessions 9;drawworth 99", flat(1, 0, 0), flat(2, 9, 0), "slot 2 3 runs 0 outs 9");
            lawOf(most, "hard 1;hard 1 if innings > 2");
            for (int left = 2; left <= 9; left++) due("only if nine each session are too few: " + left, most.when(9 - left, 0), 9 * left);
            due("with one session nobody is out", most.when(8, 0), -99);
            TossGround level = lawOf(told("sessions 3", flat(0, 0, 9), flat(1, 9, 9)), "hard 1 if session > 1");
            due("by a lead of 0 it makes a draw of a loss", level.when(0, 1), 0);
        });
        says("WHEN; - 99. IllegalArgumentException: OUT is none", () -> {
            due("nothing ever comes", told("sessions 3", flat(1, 0, 0)).when(0, 0), -99);
            refuses("out 10", ARGUMENT, () -> told("sessions 3").when(3, 10));
            refuses("neither is", INDEX, () -> told("sessions 3").when(4, 10));
        });
        says("the least DRAWWORTH (0 to 100) by which the SIDE that bats does not DECLARE in a STATE in which it does by a DRAWWORTH of 0; none (also if it does not by 0)", () -> {
            for (int drawWorth : new int[] {0, 25, 100}) due("16 draws of 25 for 4 wins", declareGround(drawWorth).line(0, 2, false, 5, 0), 25);
            due("16 draws of 100 for 16 wins", told(flat(1, 1, 9)).line(4, 2, false, 3, 0), 100);
            due("who is out in five sessions holds, if a draw is worth anything", new TossGround().line(1, 2, false, 20, 0), 1);
            due("it does not by 0", told(flat(1, 1, 9)).line(4, 2, false, 2, 0), -1);
            TossGround x = lawOf(told("sessions 3;drawworth 100", flat(0, 0, 9), flat(1, 9, 9)), "hard 1 if session > 1");
            due("it does by 100", x.declares(0, 2, false, 3, 1), true);
            due("so by none it does not", x.line(0, 2, false, 3, 1), -1);
            due("the drawworth stays", x.count(2), 100);
            due("innings 3, in which it holds", holdGround(0).line(0, 3, false, -3, 9), -1);
            due("no session is left", declareGround(0).line(2, 2, false, 5, 0), -1);
        });
    }

    static void refusedStates() {
        says("IllegalArgumentException: LEAD, OUT are none", () -> {
            TossGround x = told("sessions 2");
            within("declares, lead", ARGUMENT, -81, 81, n -> x.declares(2, 3, true, n, 9));
            within("declares, out", ARGUMENT, 0, 9, n -> x.declares(2, 3, true, 81, n));
            within("holds, lead", ARGUMENT, -81, 81, n -> x.holds(2, true, n, 9));
            within("holds, out", ARGUMENT, 0, 9, n -> x.holds(2, true, -81, n));
        });
        says("IllegalArgumentException: OUT is none", () -> {
            within("when", ARGUMENT, 0, 9, n -> told("sessions 2").when(2, n));
            within("turnover", ARGUMENT, 0, 9, n -> told("sessions 2").turnover(2, n));
        });
        says("ENFORCES. IllegalArgumentException: LEAD is none", () -> within("lead", ARGUMENT, -81, 81, n -> told("sessions 2;margin 0").enforces(0, n)));
        says("LINE; NONE. IllegalArgumentException: LEAD, OUT are none", () -> {
            TossGround x = told("sessions 2", flat(1, 0, 0));
            due("nothing ever comes", x.line(0, 0, false, 0, 0), -1);
            within("lead", ARGUMENT, -81, 81, n -> x.line(2, 3, true, n, 0));
            within("out", ARGUMENT, 0, 9, n -> x.line(2, 3, true, 0, n));
        });
    }

    static void followingAndChasing() {
        says("it is made (not below MARGIN)", () -> {
            due("a lead of 5", followMatch(40).enforces(2, 5), true);
            due("a lead of 4", followMatch(40).enforces(2, 4), false);
            due("a lead of 4, margin 4", tell(followMatch(40), "margin 4").enforces(2, 4), true);
            due("a lead of 81", followMatch(40).enforces(2, 81), true);
            due("a lead of 0, margin 0: out level, a draw", tell(followMatch(40), "margin 0").enforces(2, 0), false);
            due("as much", followMatch(100).enforces(2, 5), false);
            due("two sessions are left", followMatch(40).enforces(3, 5), true);
            due("9 out in three sessions", tell(followMatch(40), flat(1, 0, 3)).enforces(2, 5), false);
            due("two sessions are left, by a lead of 1", tell(followMatch(40), "margin 1").enforces(3, 1), true);
            due("one session is left", followMatch(40).enforces(4, 5), false);
            due("none is left", followMatch(40).enforces(5, 5), false);
            refuses("lead 82", ARGUMENT, () -> followMatch(40).enforces(5, 82));
            refuses("neither is", INDEX, () -> followMatch(40).enforces(6, 82));
        });
        says("the most RUNS (0 to 81) that the SIDE that bats in INNINGS 3 (not followed on, OUT 0) can be behind, its ways to win being as many at least as those to lose; none", () -> {
            TossGround x = lawOf(told("sessions 2", flat(0, 0, 9), halves(1, 9, 9)), "hard 1 if session > 0");
            wins("8 behind", x, 0, 3, false, -8, 0, 8, 8, 0);
            due("8 ways of both", x.chased(0), 8);
            TossGround out9 = lawOf(told("sessions 3", flat(0, 0, 9), halves(1, 9, 9), flat(2, 0, 2)), "hard 2 if session > 0 and session < 2;hard 1 if session > 1");
            wins("9 out by holding twice", out9, 0, 3, false, -8, 0, 32, 32, 0);
            due("9 out by holding twice, 32 ways of both", out9.chased(0), 8);
            due("one session is left: it cannot lose", x.chased(1), 81);
            due("none is left", x.chased(2), 81);
            due("out in two sessions with 2 runs: 2 behind is a draw", told(flat(1, 1, 9)).chased(4), 2);
            due("out in two sessions without runs: level is a draw", told(flat(1, 0, 9)).chased(4), 0);
            TossGround y = lawOf(told("sessions 2", flat(0, 0, 9), flat(1, 9, 9)), "hard 1 if side > 0");
            due("side 1 bats", y.chased(0), 18);
            within("played", INDEX, 0, 6, n -> new TossGround().chased(n));
        });
        says("HOLDS (false, if no SESSION is left). IllegalArgumentException: LEAD, OUT are none", () -> {
            due("more", holdGround(51).holds(0, false, -3, 9), true);
            due("more, followed on", holdGround(51).holds(0, true, -3, 9), true);
            due("as much", holdGround(50).holds(0, false, -3, 9), false);
            due("8 out: nobody can be out", holdGround(51).holds(0, false, -3, 8), false);
            due("none is left", holdGround(51).holds(1, false, -3, 9), false);
            refuses("neither is", INDEX, () -> holdGround(51).holds(2, false, 82, 10));
        });
        says("the most RUNS (0 to 81) that it can be behind in INNINGS 3 (not followed on), with a told OUT, and does not HOLD; none", () -> {
            TossGround x = lawOf(told("sessions 2", flat(0, 0, 9), flat(1, 9, 0)), "hard 1 if session > 0");
            due("1 out: who holds bats on, however far behind", x.turnover(0, 1), -1);
            due("0 out: it bats on anyway", x.turnover(0, 0), 81);
            due("2 out: it is out anyway", x.turnover(0, 2), 81);
            due("8 out: level is a draw, behind it would lose", told("sessions 1", flat(1, 0, 2)).turnover(0, 8), 0);
            due("none is left", x.turnover(2, 1), 81);
            TossGround y = told("slot 1 0 runs 4 outs 2");
            due("8 out: 3 behind it wins or draws, 4 behind it would lose", y.turnover(5, 8), 3);
            due("3 behind", y.holds(5, false, -3, 8), false);
            due("4 behind", y.holds(5, false, -4, 8), true);
            TossGround z = lawOf(told("sessions 1", flat(0, 0, 1), flat(1, 9, 1)), "hard 1 if side > 0");
            due("side 1 bats", z.turnover(0, 9), 9);
            refuses("neither is", INDEX, () -> new TossGround().turnover(7, 10));
        });
    }

    // ---- from the match as it is

    static void nextSession() {
        says("HERE, if that one comes next (not HELD, nobody DECLARES, nobody follows on ahead of it): ways of those SESSIONS that are left then", () -> {
            TossGround x = declareMatch(24);
            for (int slot = 0; slot < 4; slot++) {
                due("not declared", x.after(slot, 2), 4);
                due("all", x.after(slot, 3), 4);
            }
            TossGround y = followMatch(99);
            due("not made to follow on", y.after(0, 2), 16);
            due("nobody else", y.after(0, 0) + y.after(0, 1), 0);
            TossGround z = holdMatch(51);
            due("not held: 4 runs win", z.after(1, 1), 1);
            due("not held: 1 out loses", z.after(2, 0), 1);
            due("none is left then", z.after(3, 3), 1);
            due("over by it, three left", duel(9, 0, 0, 0, 3, 0, 0).after(0, 1), 64);
        });
        says("AFTER a SLOT what 0 to 3 as HERE. IllegalStateException: ahead of the TOSS, or OVER; NoSuchElementException: another what", () -> {
            within("slot", INDEX, 0, 3, n -> duel(9, 0).after(n, 0));
            within("what", ELEMENT, 0, 3, n -> duel(9, 0).after(0, n));
            refuses("ahead of the toss", STATE, () -> new TossGround().after(0, 0));
            refuses("over", STATE, () -> duel(1, 0, 0).after(0, 0));
            refuses("ahead of the toss, what 4", STATE, () -> new TossGround().after(0, 4));
            refuses("ahead of the toss, slot 4, what 4", INDEX, () -> new TossGround().after(4, 4));
        });
        says("the SLOT by which that is WORTH most to the SIDE that bats now; or least; of several the least SLOT", () -> {
            for (int first = 0; first < 2; first++) {
                TossGround x = duel(7, first, 0, 0, 0, 0, 0, 0);
                due("slots 1 and 3 win", x.turning(false), 1);
                due("slots 0 and 2 draw", x.turning(true), 0);
                tell(x, "slot 1 0 runs 9 outs 0;slot 1 1 runs 0 outs 0");
                due("slots 0 and 3 win", x.turning(false), 0);
                due("slots 1 and 2 draw", x.turning(true), 1);
                tell(x, "slot 1 0 runs 0 outs 0;slot 1 2 runs 1 outs 1;slot 1 3 runs 0 outs 0");
                due("slot 2 wins", x.turning(false), 2);
                tell(x, flat(1, 1, 0), "slot 1 3 runs 0 outs 0");
                due("slot 3 draws", x.turning(true), 3);
            }
            TossGround beside = tell(duel(7, 0, 0, 0, 0, 0, 0, 0), flat(1, 0, 0), flat(2, 9, 0), flat(0, 9, 0));
            due("of four slots of one level", beside.turning(false) * 10 + beside.turning(true), 0);
            TossGround all = duel(1, 0);
            due("all draw, the best", all.turning(false), 0);
            due("all draw, the worst", all.turning(true), 0);
            due("all draw, though side 1 leads", duel(5, 0, 0, 0, 3, 0).turning(true), 0);
        });
        says("TURNING: the best SLOT (worst false), or the worst. IllegalStateException likewise", () -> {
            refuses("ahead of the toss", STATE, () -> new TossGround().turning(false));
            refuses("over", STATE, () -> duel(1, 0, 0).turning(true));
        });
        says("of the best choice that there is, less that of this one", () -> {
            due("go on: 400 less 384", declareMatch(24).cost(0), 16);
            due("declare is the best", declareMatch(24).cost(1), 0);
            due("go on, as good", declareMatch(25).cost(0), 0);
            due("declare, as good", declareMatch(25).cost(1), 0);
            due("declare: 416 less 400", declareMatch(26).cost(1), 16);
            due("go on is the best", declareMatch(26).cost(0), 0);
            due("go on: 6400 less 6336", followMatch(99).cost(0), 64);
            due("make follow on is the best", followMatch(99).cost(2), 0);
            due("as good", followMatch(100).cost(0) + followMatch(100).cost(2), 0);
            due("hold: 200 less 196", holdMatch(49).cost(3), 4);
            due("as good", holdMatch(50).cost(0) + holdMatch(50).cost(3), 0);
            due("go on: 204 less 200", holdMatch(51).cost(0), 4);
            due("there is no other", duel(9, 0).cost(0), 0);
        });
        says("IllegalArgumentException: the choice is none (0 to 3); IllegalStateException: it cannot be made", () -> {
            TossGround[] grounds = {duel(9, 0), duel(9, 0, 2), followMatch(40), tell(followMatch(40), "margin 6"), followed(followMatch(40)), holdMatch(40), declareMatch(40), duel(1, 0, 0), new TossGround()};
            String[] may = {"0", "01", "02", "0", "0", "03", "01", "", ""};
            for (int i = 0; i < may.length; i++) {
                TossGround x = grounds[i];
                for (int choice = 0; choice < 4; choice++) {
                    int made = choice;
                    refuses("ground " + i + ", choice " + choice, may[i].indexOf('0' + choice) >= 0 ? null : STATE, () -> x.cost(made));
                }
                for (int n : new int[] {-1, 4, Integer.MIN_VALUE, Integer.MAX_VALUE}) refuses("ground " + i + ", choice " + n, ARGUMENT, () -> x.cost(n));
            }
        });
    }

    static void swings() {
        says("all SESSIONS left bring told SLOTS, nobody DECLARES, HOLDS, nobody follows on (more): who wins (2 a draw)", () -> {
            due("not declared", bytes(declareMatch(24), 0, 0).swing(), 2);
            due("not held, runs", bytes(holdMatch(51), 1).swing(), 1);
            due("not held, out", bytes(holdMatch(51), 3).swing(), 0);
            due("not made to follow on", bytes(followMatch(99), 0, 0, 0).swing(), 2);
            due("no more: it followed on", bytes(followed(followMatch(99)), 0, 0, 0).swing(), 0);
            due("over ahead of the last ones", bytes(duel(9, 0), 0, 0, 3, 0, 0, 0, 0, 0, 0).swing(), 1);
            due("by the last one", bytes(duel(7, 1), 0, 0, 0, 0, 0, 0, 3).swing(), 0);
            TossGround x = duel(9, 0, 3);
            String before = all(x);
            bytes(x, 0, 3, 0, 0, 0, 0, 0, 0).swing();
            same("the match is as it was", all(x), before);
        });
        says("(a byte for each SESSION left: the SLOT). IllegalArgumentException: the TAPE is not that; IllegalStateException: ahead of the TOSS, or OVER (told first)", () -> {
            TossGround x = duel(3, 0, 2);
            due("two are left", bytes(x, 0, 3).swing(), 2);
            refuses("one byte", ARGUMENT, () -> bytes(x, 0).swing());
            refuses("three bytes", ARGUMENT, () -> bytes(x, 0, 0, 0).swing());
            refuses("no byte", ARGUMENT, () -> x.swing());
            refuses("slot 4", ARGUMENT, () -> bytes(x, 4, 0).swing());
            refuses("slot 4 last", ARGUMENT, () -> bytes(x, 0, 4).swing());
            refuses("slot 255", ARGUMENT, () -> bytes(x, 255, 0).swing());
            due("the tape is used up", x.end(1), false);
            refuses("slot 4 behind its end", ARGUMENT, () -> bytes(duel(9, 0), 0, 0, 3, 0, 0, 0, 0, 0, 4).swing());
            TossGround over = duel(1, 0, 0);
            refuses("over", STATE, () -> over.swing());
            refuses("over, and not that", STATE, () -> bytes(over, 9).swing());
            due("the tape is used up", over.end(1), false);
            refuses("ahead of the toss, and not that", STATE, () -> bytes(new TossGround(), 9).swing());
        });
    }

    static void blindAndTarget() {
        says("HERE, if nobody DECLARES, HOLDS, makes follow on from now on (what is so already stays)", () -> {
            due("nobody declares", declareMatch(24).blind(2), 16);
            due("it was declared", declared(declareMatch(24)).blind(1), 12);
            due("nobody holds", holdMatch(51).blind(1), 2);
            due("nobody makes follow on", followMatch(99).blind(2), 64);
            due("it was made", followed(followMatch(99)).blind(0), 64);
            due("over", duel(9, 0, 0, 0, 3, 0, 0, 0).blind(1), 64);
            TossGround x = duel(9, 0, 0, 0, 0, 0, 0, 0);
            x.hold(0);
            due("what was held stays: 8 out", x.match(2), 8);
            due("slots 0 and 1 are out or win", x.blind(0) + x.blind(1) + x.blind(2), 16);
        });
        says("BLIND what 0 to 3 as HERE. IllegalStateException: ahead of the TOSS; NoSuchElementException: another what", () -> {
            within("what", ELEMENT, 0, 3, n -> duel(9, 0).blind(n));
            refuses("ahead of the toss", STATE, () -> new TossGround().blind(0));
            refuses("neither is", STATE, () -> new TossGround().blind(4));
        });
        says("how many RUNS the SIDE that bats must make to have a LEAD of 1; by SESSIONS left, rounded up", () -> {
            TossGround x = duel(9, 0, 1, 3, 0, 0, 0, 0);
            due("10 behind", x.target(false), 11);
            due("11 by 3", x.target(true), 4);
            x.hold(2);
            due("11 by 2", x.target(true), 6);
            x.hold(2);
            due("11 by 1", x.target(true), 11);
            due("9 by 3", duel(9, 0, 1, 0, 3, 0, 0, 0).target(true), 3);
            due("level", duel(9, 0, 0, 0, 0, 0, 0, 0).target(false), 1);
            due("1 by 3", duel(9, 0, 0, 0, 0, 0, 0, 0).target(true), 1);
            due("1 by 1", duel(7, 0, 0, 0, 0, 0, 0, 0).target(true), 1);
        });
        says("RUNS (each false), or RUNS for each SESSION left. IllegalStateException: it is not INNINGS 3, or OVER", () -> {
            refuses("ahead of the toss", STATE, () -> new TossGround().target(false));
            refuses("innings 0", STATE, () -> duel(9, 0).target(true));
            refuses("innings 2", STATE, () -> duel(9, 0, 0, 0, 0, 0, 0).target(false));
            refuses("won", STATE, () -> duel(9, 0, 0, 0, 3, 0, 0, 0).target(true));
            refuses("a draw", STATE, () -> duel(7, 0, 0, 0, 0, 0, 0, 0, 2).target(true));
        });
    }

    // ---- the book

    static void books() {
        says("of old matches: how many; in how many who won the toss batted; in how many of these that one won; in how many who batted first won; who won the toss won; draws", () -> {
            TossGround none = new TossGround();
            for (int what = 0; what < 6; what++) due("no old matches", none.book(what), 0);
            String[] one = {"book 0 0 0", "book 0 0 1", "book 0 0 2", "book 0 1 0", "book 0 1 1", "book 0 1 2", "book 1 0 0", "book 1 1 1"};
            int[][] want = {{1, 1, 1, 1, 1, 0}, {1, 1, 0, 0, 0, 0}, {1, 1, 0, 0, 0, 1}, {1, 0, 0, 0, 1, 0}, {1, 0, 0, 1, 0, 0}, {1, 0, 0, 0, 0, 1}, {1, 0, 0, 1, 0, 0}, {1, 1, 1, 1, 1, 0}};
            for (int i = 0; i < one.length; i++) for (int what = 0; what < 6; what++) due(one[i] + ", what " + what, told(one[i]).book(what), want[i][what]);
            due("60", full("book 1 1 1").book(2), 60);
        });
        says("BOOK what 0 to 5, as above. NoSuchElementException: another what", () -> within("what", ELEMENT, 0, 5, n -> new TossGround().book(n)));
        says("of one of these in another one, in ten-thousandths, rounded down (0 of none)", () -> {
            TossGround x = told("book 0 0 0;book 0 0 0;book 0 1 2");
            due("2 of 3", x.share(1, 0), 6666);
            due("1 of 3", x.share(5, 0), 3333);
            due("3 of 1", x.share(0, 5), 30000);
            due("all of all", x.share(0, 0), 10000);
            due("none of 3", new TossGround().share(5, 0), 0);
            due("3 of none", told("book 0 0 0;book 0 0 0;book 0 0 0").share(0, 5), 0);
            TossGround y = tell(told(times("book 0 0 0", 14, ";"), times("book 0 0 0", 14, ";"), times("book 0 0 0", 14, ";"), times("book 0 0 0", 14, ";")), "book 0 0 2;book 0 0 0;book 0 0 0;book 0 0 0");
            due("60 of 1", y.share(0, 5), 600000);
            due("1 of 60", y.share(5, 0), 166);
        });
        says("SHARE of BOOK what in BOOK of. NoSuchElementException: another what", () -> {
            within("what", ELEMENT, 0, 5, n -> new TossGround().share(n, 0));
            within("of", ELEMENT, 0, 5, n -> new TossGround().share(0, n));
        });
        says("nine of ten, at least, who won the toss batted (no matches: not)", () -> {
            due("no matches", new TossGround().habit(false), false);
            due("1 of 1", told("book 0 0 0").habit(false), true);
            due("8 of 9", told(times("book 0 0 0", 8, ";") + ";book 0 1 0").habit(false), false);
            TossGround x = told(times("book 0 0 0", 9, ";") + ";book 0 1 0");
            due("9 of 10", x.habit(false), true);
            due("9 of 11", tell(x, "book 1 0 0").habit(false), false);
            due("17 of 19", tell(x, times("book 1 1 0", 8, ";")).habit(false), false);
            due("18 of 20", tell(x, "book 1 1 0").habit(false), true);
        });
        says("who batted first won as often as lost", () -> {
            due("no matches", new TossGround().habit(true), true);
            due("draws alone", told("book 0 0 2;book 0 1 2").habit(true), true);
            due("1 and 1", told("book 0 0 0;book 0 0 1").habit(true), true);
            due("1 and 1, the other one batting", told("book 0 1 1;book 0 1 0;book 0 0 2").habit(true), true);
            due("1 and 1, who won the toss lost", told("book 0 1 1;book 0 0 1").habit(true), true);
            due("1 and 0", told("book 0 0 0").habit(true), false);
            due("0 and 1", told("book 0 0 1").habit(true), false);
            due("2 and 1", told("book 0 0 0;book 1 1 1;book 0 1 0").habit(true), false);
        });
        says("the most old matches one behind another in which who batted first won; in which who won the toss did; draws", () -> {
            for (int what = 0; what < 3; what++) due("no matches", new TossGround().streak(what), 0);
            TossGround x = told("book 0 0 0;book 0 1 1;book 0 0 1;book 1 1 1;book 0 0 0;book 1 1 1;book 0 0 2");
            due("2, then 3", x.streak(0), 3);
            due("1, then 3", x.streak(1), 3);
            due("the last one", x.streak(2), 1);
            tell(x, "book 1 1 2;book 0 0 0;book 0 0 2");
            due("over two texts", x.streak(2), 2);
            due("not broken ones together", x.streak(0), 3);
            due("60", full("book 0 0 0").streak(0), 60);
        });
        says("STREAK what 0 who batted first, 1 who won the toss, 2 draws. NoSuchElementException: another what", () -> within("what", ELEMENT, 0, 2, n -> new TossGround().streak(n)));
    }

    /** 60 old matches. */
    static TossGround full(String book) {
        TossGround x = new TossGround();
        for (int i = 0; i < 5; i++) tell(x, times(book, 12, ";"));
        return x;
    }

    // ---- signs

    static void signs() {
        says("mornings are told (each four bytes: KEY, COLOUR, TIDE, 0 to 3 each, and 1 if it swung, or 0)", () -> {
            TossGround x = new TossGround();
            due("the bounds", bytes(x, 0, 0, 0, 0, 3, 3, 3, 1).signs(0, 3, true), 1);
            int[][] wrong = {{4, 0, 0, 0}, {0, 4, 0, 0}, {0, 0, 4, 0}, {0, 0, 0, 2}, {255, 0, 0, 0}, {0, 0, 0, 255}, {0}, {0, 0}, {0, 0, 0}, {0, 0, 0, 0, 0}, {0, 0, 0, 1, 0, 0, 0, 3}};
            for (int[] w : wrong) {
                refuses("signs of " + w.length, ARGUMENT, () -> bytes(x, w).signs(0, 0, false));
                due("the tape is used up", x.end(1), false);
                refuses("best of " + w.length, ARGUMENT, () -> bytes(x, w).best(false, false));
                refuses("rule of " + w.length, ARGUMENT, () -> bytes(x, w).best(true, true));
                due("the tape is used up", x.end(1), false);
            }
        });
        says("with a sign (0 to 2) and a value: how many; in how many it swung", () -> {
            int[] told = {0, 1, 2, 1, 0, 3, 2, 0, 3, 1, 2, 0};
            int[][] many = {{2, 0, 0, 1}, {0, 2, 0, 1}, {0, 0, 3, 0}};
            int[][] swung = {{1, 0, 0, 0}, {0, 1, 0, 0}, {0, 0, 1, 0}};
            TossGround x = new TossGround();
            for (int sign = 0; sign < 3; sign++) {
                for (int value = 0; value < 4; value++) {
                    due("sign " + sign + ", value " + value, bytes(x, told).signs(sign, value, false), many[sign][value]);
                    due("sign " + sign + ", value " + value + ", swung", bytes(x, told).signs(sign, value, true), swung[sign][value]);
                }
            }
            int[] full = new int[400];
            for (int i = 3; i < 400; i += 8) full[i] = 1;
            due("100 mornings", bytes(x, full).signs(2, 0, false), 100);
            due("in 50 it swung", bytes(x, full).signs(2, 0, true), 50);
        });
        says("IllegalArgumentException: the TAPE is not that (none may be told), or the sign, the value are none", () -> {
            TossGround x = new TossGround();
            due("none is told", x.signs(2, 3, false), 0);
            due("none is told, swung", x.signs(0, 0, true), 0);
            within("sign", ARGUMENT, 0, 2, n -> x.signs(n, 0, false));
            within("value", ARGUMENT, 0, 3, n -> x.signs(0, n, true));
            refuses("sign 3 of a right tape", ARGUMENT, () -> bytes(x, 0, 0, 0, 0).signs(3, 0, false));
            due("the tape is used up", x.end(1), false);
        });
        says("BEST (rule false: a sign), or RULE: which (many false), or how many. IllegalArgumentException: the TAPE is not that", () -> {
            TossGround x = new TossGround();
            refuses("three bytes", ARGUMENT, () -> bytes(x, 0, 0, 0).best(false, true));
            due("the tape is used up", x.end(1), false);
            refuses("five bytes", ARGUMENT, () -> bytes(x, 0, 0, 0, 0, 0).best(true, false));
            refuses("the last one is 2", ARGUMENT, () -> bytes(x, 0, 0, 0, 1, 3, 3, 3, 2).best(true, true));
            due("no bytes", x.best(true, true), 0);
        });
        says("that by whose values most mornings are told right (by each value as it mostly was; a tie: either): which (of several the first), how many", () -> {
            best("none is told", false, 0, 0);
            best("one: all signs tell it", false, 0, 1, 3, 3, 3, 1);
            best("a tie of a value tells half", false, 0, 1, 0, 0, 0, 1, 0, 0, 0, 0);
            best("two of three", false, 0, 2, 0, 0, 0, 1, 0, 0, 0, 0, 0, 0, 0, 1);
            best("sign 1 alone", false, 1, 2, 0, 0, 0, 1, 0, 1, 0, 0);
            best("sign 2 alone", false, 2, 2, 0, 0, 0, 1, 0, 0, 1, 0);
            best("signs 1 and 2", false, 1, 2, 0, 2, 3, 1, 0, 1, 1, 0);
            best("signs 0 and 2", false, 0, 2, 3, 0, 3, 1, 0, 0, 1, 0);
        });
        says("likewise by two signs together: 0 and 1, 0 and 2, 1 and 2: which pair (0 to 2), how many", () -> {
            best("none is told", true, 0, 0);
            best("all pairs", true, 0, 2, 3, 3, 3, 1, 2, 2, 2, 0);
            best("a tie", true, 0, 1, 1, 1, 1, 1, 1, 1, 1, 0);
            best("0 and 1 alone", true, 0, 4, 0, 0, 0, 0, 0, 1, 0, 1, 1, 0, 0, 1, 1, 1, 0, 0);
            best("0 and 2 alone", true, 1, 4, 0, 3, 0, 0, 0, 3, 1, 1, 1, 3, 0, 1, 1, 3, 1, 0);
            best("1 and 2 alone", true, 2, 4, 2, 0, 0, 0, 2, 0, 1, 1, 2, 1, 0, 1, 2, 1, 1, 0);
            best("0 and 2, 1 and 2", true, 1, 2, 0, 0, 0, 0, 0, 0, 3, 1);
            best("1 and 0 are not 0 and 1", true, 0, 2, 1, 0, 0, 1, 0, 1, 0, 0);
        });
    }

    static void best(String what, boolean rule, int which, int many, int... mornings) {
        TossGround x = new TossGround();
        due(what + ", which", bytes(x, mornings).best(rule, false), which);
        due(what + ", how many", bytes(x, mornings).best(rule, true), many);
        due(what + ", the tape is used up", x.end(1), false);
    }

    // ---- tables

    static void tables() {
        says("RUNS of its four SLOTS together, as they count (RAIN: 0); OUTS likewise", () -> {
            TossGround x = told("sessions 9;rain 0 8", flat(1, 9, 9), "slot 1 3 runs 0 outs 1");
            due("runs", x.table(1, 0, 0, false), 27);
            due("outs", x.table(1, 0, 0, true), 28);
            due("rain in the first session", x.table(0, 0, 0, false) + x.table(0, 0, 0, true), 0);
            due("rain in the last session", x.table(8, 3, 1, false) + x.table(8, 3, 1, true), 0);
            lawOf(x, "hard 3 if innings > 2 and side > 0");
            due("level 3", tell(x, flat(3, 9, 0)).table(7, 3, 1, false), 36);
            due("level 0", x.table(7, 3, 0, false), 12);
        });
        says("TABLE: RUNS (outs false), or OUTS", () -> {
            within("session", INDEX, 0, 8, n -> told("sessions 9").table(n, 0, 0, false));
            within("session of one", INDEX, 0, 0, n -> told("sessions 1").table(n, 0, 0, true));
            within("innings", INDEX, 0, 3, n -> new TossGround().table(0, n, 0, false));
            within("side", INDEX, 0, 1, n -> new TossGround().table(0, 0, n, false));
        });
        says("the SESSION (of all S) of the greatest LEVEL for a SIDE in an INNINGS; of several the first", () -> {
            TossGround x = told("sessions 9");
            due("all are as hard", x.hardest(3, 1), 0);
            lawOf(x, "hard 1;hard 1 if session > 7");
            due("the last one", x.hardest(0, 0), 8);
            lawOf(x, "hard 1;hard 1 if session > 3");
            due("the first of five", x.hardest(0, 0), 4);
            lawOf(x, "hard 3 if session > 5;hard 9 if session > 6");
            due("3 at most", x.hardest(0, 0), 6);
            lawOf(x, "hard 0");
            due("none is hard", x.hardest(0, 0), 0);
            lawOf(x, "hard 1 if session > 1 and innings > 2 and side > 0");
            due("in innings 3 for side 1", x.hardest(3, 1), 2);
            due("for side 0", x.hardest(3, 0), 0);
            due("in innings 2", x.hardest(2, 1), 0);
            due("of all S", lawOf(told("sessions 3"), "hard 1 if session > 2").hardest(0, 0), 0);
            within("innings", INDEX, 0, 3, n -> new TossGround().hardest(n, 0));
            within("side", INDEX, 0, 1, n -> new TossGround().hardest(0, n));
        });
    }

    /** One question, and what it answers. */
    interface Question {
        long of(TossGround x);
    }

    static void questions() {
        Question[] asked = {x -> x.here(0), x -> x.blind(2), x -> x.after(0, 0), x -> x.cost(0), x -> x.turning(false), x -> x.worth(0, 0), x -> x.worth(1, 0), x -> x.evens(0),
            x -> x.wins(3, 2, false, 5, 0, 0), x -> x.when(3, 0), x -> x.line(3, 2, false, 5, 0), x -> x.chased(3), x -> x.holds(4, false, -3, 9) ? 1 : 0, x -> x.enforces(2, 20) ? 1 : 0, x -> x.target(false),
            x -> bytes(x, 0, 0, 0).swing(), x -> x.level(4, 3, 1)};
        says("Nothing is promised beyond the answers and state changes described above", () -> {
            for (int i = 0; i < asked.length; i++) {
                for (int j = 0; j < asked.length; j++) {
                    TossGround x = questionMatch();
                    answer(asked[i], x);
                    due("question " + j + " behind question " + i, answer(asked[j], x), answer(asked[j], questionMatch()));
                }
            }
        });
        says("from THE MATCH as it is", () -> {
            String text = "drawworth 60;slot 2 0 runs 1 outs 9;slot 2 2 runs 3 outs 9;rain 3";
            for (int i = 0; i < asked.length; i++) {
                TossGround x = questionMatch();
                x.image();
                long before = answer(asked[i], x);
                tell(x, text);
                due("question " + i + " behind a text", answer(asked[i], x), answer(asked[i], tell(questionMatch(), text)));
                lawOf(x, "hard 2");
                due("question " + i + " behind a law", answer(asked[i], x), answer(asked[i], lawOf(tell(questionMatch(), text), "hard 2")));
                x.back();
                due("question " + i + " gone back", answer(asked[i], x), before);
            }
        });
    }

    /** All leads asked of one object, one behind another, are as each asked of a new one. */
    static void allLeads() {
        says("(-81 to 81)", () -> {
            for (int innings = 0; innings < 4; innings++) {
                TossGround x = leadGround();
                for (int lead = -81; lead <= 81; lead++) {
                    TossGround y = leadGround();
                    for (int what = 0; what < 2; what++) {
                        due("innings " + innings + ", lead " + lead + ", wins what " + what, x.wins(1, innings, true, lead, 3, what), y.wins(1, innings, true, lead, 3, what));
                    }
                }
            }
        });
    }

    static TossGround leadGround() {
        return told("sessions 9;margin 0", "slot 1 0 runs 9 outs 1;slot 1 1 runs 9 outs 4;slot 1 2 runs 0 outs 2;slot 1 3 runs 3 outs 9");
    }

    /** Ahead of innings 2, in which side 1 had better declare, as on the declareGround. */
    static TossGround questionMatch() {
        TossGround x = lawOf(told("sessions 5;drawworth 24", flat(0, 5, 0), flat(1, 0, 0), halves(2, 9, 9)), "hard 1 if innings > 0;hard 1 if innings > 2");
        x.toss(1);
        return declared(declared(bring(x, 0), 0));
    }

    static long answer(Question question, TossGround x) {
        try {
            return question.of(x);
        } catch (IllegalStateException e) {
            return -77;
        }
    }

    static void manyCalls() {
        says("An object is used for at most 512 calls after it has been made", () -> {
            TossGround x = new TossGround();
            for (int i = 0; i < 509; i++) x.line(3, 2, false, i % 20, i % 10);
            TossGround y = new TossGround();
            for (int what = 0; what < 3; what++) due("the last calls", x.wins(1, 2, false, 7, 3, what), y.wins(1, 2, false, 7, 3, what));
        });
    }

    public static void main(String[] args) {
        allWays();
        choices();
        hereAndToss();
        toldStates();
        declaring();
        refusedStates();
        followingAndChasing();
        nextSession();
        swings();
        blindAndTarget();
        books();
        signs();
        tables();
        questions();
        allLeads();
        manyCalls();
        end();
    }
}
