/** The document's boundaries by its sentences: the match, its acts, what is kept of them (promises 11 to 18, 44, 46 to 51). */
public final class TossGroundMatchEdgeTest extends TossGroundSentences {

    static void match(TossGround x, int... want) {
        for (int i = 0; i < want.length; i++) due("match(" + i + ")", x.match(i), want[i]);
    }

    // ---- innings

    static void innings() {
        says("ahead of the TOSS nothing is; by it one SIDE bats first", () -> {
            TossGround x = new TossGround();
            match(x, -1, 0, 0, 0, 0, -1, 0, 0, -1, 0, 0);
            due("the log", x.log(0, 0), -99);
            x.toss(1);
            match(x, 1, 0, 0, 0, 0, 1, 0, 0, -1, 0, 1);
        });
        says("INNINGS 0: that SIDE bats; 1: the other one; 2: the first one again, or, if it followed on, the other one; 3: the one that did not in INNINGS 2", () -> {
            for (int first = 0; first < 2; first++) {
                TossGround x = duel(9, first);
                tell(x, "margin 0");
                due("innings 0", x.match(5), first);
                due("innings 1", bring(x, 0, 0).match(5), 1 - first);
                due("innings 2", bring(x, 0, 0).match(5), first);
                x.image();
                due("innings 3", bring(x, 0, 0).match(5), 1 - first);
                x.back();
                x.follow();
                due("innings 2, followed on", x.match(5), 1 - first);
                due("innings 3 behind that", bring(x, 0, 0).match(5), first);
                due("it is innings 3", x.match(1), 3);
            }
        });
        says("LEAD of a SIDE: its RUNS less the other one's", () -> {
            TossGround x = duel(9, 1);
            due("9 and 0", x.bring(1), 9);
            due("10 and 0", x.bring(3), 10);
            due("1 less 10", x.bring(3), -9);
            due("of side 0", x.match(3), 1);
            due("of side 1", x.match(4), 10);
        });
        says("OUT: how many are in this INNINGS, 10 at most", () -> {
            TossGround x = duel(9, 0, 0);
            due("9", x.match(2), 9);
            x.bring(0);
            due("18 are 10", x.log(1, 5), 10);
            due("none in the next innings", x.match(2), 0);
            bring(x, 0, 3, 0, 3, 0, 0);
            due("18 are 10 in innings 3", x.match(2), 10);
        });
        says("An INNINGS is FRESH, till a SESSION of it was PLAYED", () -> {
            TossGround x = duel(9, 0);
            for (int innings = 0; innings < 3; innings++) {
                due("ahead of its first session", x.match(10), 1);
                due("behind a session in which nothing was", bring(x, 2).match(10), 0);
                x.undo();
                due("behind its first session", bring(x, 0).match(10), 0);
                due("the next one", bring(x, 0).match(10), 1);
            }
            x.hold(2);
            due("behind one that was held", x.match(10), 0);
            x = told("rain 0");
            x.toss(0);
            due("behind one of rain", bring(x, 0).match(10), 0);
            x.declare();
            due("the next one", x.match(10), 1);
        });
        says("RUNS and OUTS of a SLOT of the LEVEL come to the SIDE that bats (none of either in a SESSION of RAIN)", () -> {
            TossGround x = tell(duelGround(9), "rain 0 6");
            x.toss(0);
            due("rain", x.bring(1), 0);
            match(x, 0, 0, 0, 0, 0, 0, 1, 0, -1, 0, 0);
            bring(x, 3);
            match(x, 0, 0, 1, 1, 0, 0, 2, 0, -1, 0, 0);
            x.declare();
            bring(x, 3);
            match(x, 0, 1, 1, 1, 1, 1, 3, 0, -1, 0, 0);
            bring(x, 0, 0, 2);
            due("six were played, innings 2", x.match(1) * 10 + x.match(6), 26);
            due("rain in innings 2", x.bring(0), 0);
            due("9 out stay 9", x.match(2), 9);
            due("told of it", x.log(6, 5), 9);
            TossGround y = tell(duel(9, 0, 0, 0, 0, 0, 0, 0), "rain 6 7");
            due("held in rain", y.hold(0), 0);
            due("none is out", y.match(2), 0);
            due("rain in innings 3", y.bring(1), 0);
            due("none is out", y.match(2), 0);
        });
        says("In INNINGS 3 it may be HELD: no RUNS, and OUTS one less (0 at least)", () -> {
            int[] outs = {8, 8, 0, 0};
            for (int slot = 0; slot < 4; slot++) {
                TossGround x = duel(9, 0, 0, 0, 0, 0, 0, 0);
                due("no runs by slot " + slot, x.hold(slot), 0);
                due("outs by slot " + slot, x.match(2), outs[slot]);
            }
            TossGround x = duel(9, 0, 0, 0, 0, 0, 0, 0);
            x.hold(0);
            x.hold(0);
            due("8 and 8 are 10", x.match(2), 10);
            TossGround y = duel(9, 0);
            for (int innings = 0; innings < 3; innings++) {
                refuses("innings " + innings, STATE, () -> y.hold(2));
                bring(y, 0, 0);
            }
        });
    }

    static void innings0to2End() {
        says("INNINGS 0 to 2 end with OUT 10 behind a SESSION, or DECLARED ahead of one (not if FRESH)", () -> {
            TossGround x = duel(9, 0);
            for (int innings = 0; innings < 3; innings++) {
                refuses("fresh", STATE, () -> x.declare());
                bring(x, 0);
                due("out 9", x.match(1), innings);
                due("out 10", bring(x, 3).match(1), innings + 1);
                x.undo();
                due("out 18", bring(x, 0).match(1), innings + 1);
                x.undo();
                x.declare();
                due("declared", x.match(1), innings + 1);
            }
            refuses("innings 3, fresh", STATE, () -> x.declare());
            bring(x, 0);
            refuses("innings 3", STATE, () -> x.declare());
        });
        says("then the next one begins, with the next SESSION (DECLARED: with this one)", () -> {
            TossGround x = duel(9, 0, 0, 0);
            due("two sessions were played", x.match(6), 2);
            due("the one that ended it is of innings 0", x.log(1, 0), 0);
            bring(x, 3);
            due("the next one is of innings 1", x.log(2, 0), 1);
            x.declare();
            due("no session by declaring", x.match(6), 3);
            due("none is out", x.match(2), 0);
            due("the runs stay", x.match(4), 1);
            bring(x, 3);
            due("this one is of innings 2", x.log(3, 0), 2);
        });
    }

    // ---- over

    static void over() {
        says("in INNINGS 3 with a LEAD above 0 of the SIDE that bats: it won", () -> {
            TossGround x = duel(9, 0, 0, 0, 0, 0, 0, 0);
            due("a lead of 0", bring(x, 2).match(8), -1);
            due("a lead of 1", bring(x, 3).match(8), 1);
            due("side 1 first", duel(9, 1, 0, 0, 0, 0, 0, 0, 3).match(8), 0);
            due("a lead in innings 2", duel(9, 0, 0, 0, 0, 0, 3).match(8), -1);
        });
        says("with OUT 10 in INNINGS 3: with a LEAD of 0 a draw, else the other one won", () -> {
            due("out 9", duel(9, 0, 0, 0, 0, 0, 0, 0, 0).match(8), -1);
            due("out 10 with a lead of 0", duel(9, 0, 0, 0, 0, 0, 0, 0, 0, 0).match(8), 2);
            due("out 10 with a lead of -1", duel(9, 0, 3, 0, 0, 0, 0, 0, 0, 0).match(8), 0);
            due("out 10 with a lead of -1, side 1 first", duel(9, 1, 3, 0, 0, 0, 0, 0, 0, 0).match(8), 1);
            TossGround x = duel(9, 0, 3, 0, 0, 0, 0, 0);
            x.hold(0);
            due("out 8, held", x.match(8), -1);
            x.hold(1);
            due("out 10, held", x.match(8), 0);
        });
        says("INNINGS 3 begins with a LEAD above 0 of the SIDE that is to bat: it won", () -> {
            due("a lead of 1", duel(9, 0, 0, 0, 3, 0, 0, 0).match(8), 1);
            due("a lead of 1, side 1 first", duel(9, 1, 0, 0, 3, 0, 0, 0).match(8), 0);
            due("a lead of 0", duel(9, 0, 3, 0, 3, 0, 0, 0).match(8), -1);
            due("a lead of -1", duel(9, 0, 3, 0, 0, 0, 0, 0).match(8), -1);
            TossGround x = tell(duelGround(9), "margin 9");
            x.toss(0);
            bring(x, 1, 0, 0, 0);
            x.follow();
            due("followed on, and still behind", bring(x, 0, 0).match(8), 0);
            x = tell(duelGround(9), "margin 9");
            x.toss(0);
            bring(x, 1, 0, 0, 0);
            x.follow();
            due("followed on, and level", bring(x, 1, 0).match(8), -1);
        });
        says("all SESSIONS were PLAYED: a draw", () -> {
            due("the only one", duel(1, 0, 2).match(8), 2);
            due("one is left", duel(2, 0, 2).match(8), -1);
            due("the last of nine", duel(9, 1, 2, 2, 2, 2, 2, 2, 2, 2, 2).match(8), 2);
            due("one of nine is left", duel(9, 1, 2, 2, 2, 2, 2, 2, 2, 2).match(8), -1);
            due("with a lead in innings 2", duel(5, 0, 0, 0, 0, 0, 1).match(8), 2);
            due("in innings 3, behind", duel(7, 0, 3, 0, 0, 0, 0, 0, 2).match(8), 2);
        });
        says("OVER, asked in this order behind each SESSION, and behind each DECLARATION", () -> {
            due("a lead above 0 with the last one out", duel(9, 0, 0, 0, 0, 0, 0, 0, 0, 3).match(8), 1);
            due("a lead above 0 in the last session", duel(7, 0, 0, 0, 0, 0, 0, 0, 3).match(8), 1);
            due("out behind in the last session", duel(8, 0, 3, 0, 0, 0, 0, 0, 0, 0).match(8), 0);
            due("innings 3 begins with a lead behind the last session", duel(6, 0, 0, 0, 3, 0, 0, 0).match(8), 1);
            due("innings 3 begins without one behind the last session", duel(6, 0, 3, 0, 0, 0, 0, 0).match(8), 2);
            due("innings 1 begins behind the last session", duel(2, 0, 0, 0).match(8), 2);
            TossGround x = duel(9, 0, 0, 0, 3, 0, 0);
            due("not yet", x.match(8), -1);
            due("declared, a lead above 0 of who is to bat", x.declare(), -1);
            match(x, 0, 3, 0, 0, 1, -1, 5, 0, 1, 0, 1);
            TossGround y = duel(9, 0, 3, 0, 3, 0, 0);
            y.declare();
            match(y, 0, 3, 0, 1, 1, 1, 5, 0, -1, 0, 1);
        });
    }

    // ---- follow on

    static void followOn() {
        says("as INNINGS 2 is FRESH, it did not follow on, and the LEAD of the SIDE that batted first is MARGIN at least", () -> {
            for (int first = 0; first < 2; first++) {
                TossGround x = tell(duelGround(9), "margin 9");
                x.toss(first);
                bring(x, 1, 0, 0);
                due("innings 1", x.match(9), 0);
                refuses("innings 1", STATE, () -> x.follow());
                due("a lead of 9", bring(x, 0).match(9), 1);
                x.image();
                due("not fresh", bring(x, 2).match(9), 0);
                refuses("not fresh", STATE, () -> x.follow());
                x.back();
                x.follow();
                due("it did", x.match(9), 0);
                refuses("it did", STATE, () -> x.follow());
                x.back();
                tell(x, "margin 10");
                due("a lead of 9, margin 10", x.match(9), 0);
                refuses("a lead of 9, margin 10", STATE, () -> x.follow());
            }
            due("a lead of 0, margin 0", tell(duel(9, 0, 0, 0, 0, 0), "margin 0").match(9), 1);
            due("a lead of -1, margin 0", tell(duel(9, 0, 0, 0, 3, 0), "margin 0").match(9), 0);
            due("by declaring innings 1", declared(tell(duel(9, 0, 1, 0, 0), "margin 9")).match(9), 1);
        });
        says("INNINGS 2 is the other one's then", () -> {
            TossGround x = tell(duel(9, 1, 1, 0, 0, 0), "margin 9");
            due("lead of who batted first", x.follow(), 9);
            match(x, 1, 2, 0, 0, 9, 0, 4, 1, -1, 0, 1);
            due("the runs are its own", x.bring(3), -8);
            x.declare();
            match(x, 1, 3, 0, 1, 9, -1, 5, 1, 1, 0, 1);
        });
    }

    static TossGround declared(TossGround x) {
        x.declare();
        return x;
    }

    // ---- acts

    static void draws() {
        says("(SLOT: DRAW modulo 4)", () -> {
            // 16838, 5758, 10113, 17515, 31051, 5627, 23010, 7419, 16212 are drawn
            int[] slots = {2, 2, 1, 3, 3, 3, 2, 3, 0};
            TossGround x = told("sessions 9");
            x.toss(0);
            for (int i = 0; i < 9; i++) {
                due("slot of session " + i, x.play(), slots[i]);
                due("told of it", x.log(i, 3), slots[i]);
            }
        });
        says("SEED is 1103515245 times SEED and 12345, as an int that goes round; bits 16 to 30 (SEED 1 at first)", () -> {
            due("at first", new TossGround().seed(1), 1);
            for (int seed : new int[] {0, 1, 2, 3, -1, Integer.MAX_VALUE, Integer.MIN_VALUE, 65536, 1 << 30, 987654321, -987654321}) {
                TossGround x = new TossGround();
                x.toss(0);
                x.seed(seed);
                long next = Math.floorMod(1103515245L * seed + 12345L, 1L << 32);
                due("slot by seed " + seed, x.play(), next / 65536 % 32768 % 4);
                due("the seed behind " + seed, x.seed(0), next >= 1L << 31 ? next - (1L << 32) : next);
            }
        });
        says("a new MATCH (ahead of the TOSS, LOG empty; SEED stays) (each also if it changes nothing)", () -> {
            TossGround x = duel(9, 0, 1, 0, 3);
            x.seed(77);
            due("sessions that had been played", x.anew(), 3);
            match(x, -1, 0, 0, 0, 0, -1, 0, 0, -1, 0, 0);
            for (int what = 0; what < 7; what++) due("the log, what " + what, x.log(0, what), -99);
            due("acts", x.count(10), 5);
            TossGround won = duel(9, 0, 0, 0, 3, 0, 0, 0);
            match(won, 0, 3, 0, 0, 1, -1, 6, 0, 1, 0, 1);
            due("over", won.anew(), 6);
            match(won, -1, 0, 0, 0, 0, -1, 0, 0, -1, 0, 0);
            TossGround followed = tell(duel(9, 0, 0, 0, 0, 0), "margin 0");
            followed.follow();
            followed.anew();
            match(followed, -1, 0, 0, 0, 0, -1, 0, 0, -1, 0, 0);
            due("again: none", x.anew(), 0);
            due("that is an act too", x.count(10), 6);
            due("the seed", x.seed(78), 77);
            due("an act of a new one", new TossGround().anew(), 0);
            x = duel(9, 0, 0, 0, 0, 0, 0, 0);
            int acts = x.count(10);
            x.hold(2);
            due("a session in which nothing comes is an act", x.count(10), acts + 1);
        });
    }

    static void acts() {
        says("The TOSS: a SIDE bats first: its LEVEL in SESSION 0. IllegalStateException: it was", () -> {
            within("side", INDEX, 0, 1, n -> new TossGround().toss(n));
            String law = "hard 1 if side > 0;hard 2 if session > 0 or innings > 0";
            due("side 0", lawOf(new TossGround(), law).toss(0), 0);
            due("side 1", lawOf(new TossGround(), law).toss(1), 1);
            due("without a law", new TossGround().toss(1), 1);
            TossGround x = duel(1, 0);
            refuses("it was", STATE, () -> x.toss(0));
            bring(x, 2);
            refuses("it was, over", STATE, () -> x.toss(1));
            x.anew();
            due("in a new match", x.toss(1), 1);
        });
        says("A SESSION is PLAYED by DRAW: the SLOT. IllegalStateException: ahead of the TOSS, or OVER", () -> {
            TossGround x = duelGround(1);
            refuses("ahead of the toss", STATE, () -> x.play());
            due("the seed stays", x.seed(1), 1);
            x.toss(0);
            due("the only session", x.play(), 2);
            TossGround y = told("sessions 2", flat(1, 7, 3));
            y.toss(1);
            y.play();
            match(y, 1, 0, 3, 0, 7, 1, 1, 0, -1, 0, 0);
            refuses("over", STATE, () -> x.play());
            due("the seed stays", x.seed(1), 1103527590);
        });
        says("A SESSION is PLAYED by a told SLOT: LEAD of the SIDE that batted. IllegalStateException likewise", () -> {
            within("slot", INDEX, 0, 3, n -> duel(9, 0).bring(n));
            refuses("ahead of the toss", STATE, () -> duelGround(9).bring(0));
            refuses("over", STATE, () -> duel(1, 0, 2).bring(0));
            due("of who batted, though the next innings begins", duel(9, 1, 1).bring(3), 10);
            due("of who batted, though it is over", duel(6, 0, 0, 0, 3, 0, 0).bring(0), -1);
        });
        says("A SESSION is HELD by a told SLOT: LEAD of the SIDE that bats. IllegalStateException: it is not INNINGS 3, or OVER", () -> {
            within("slot", INDEX, 0, 3, n -> duel(9, 0, 0, 0, 0, 0, 0, 0).hold(n));
            due("behind", duel(9, 0, 3, 0, 0, 0, 0, 0).hold(2), -1);
            refuses("ahead of the toss", STATE, () -> duelGround(9).hold(0));
            refuses("innings 0", STATE, () -> duel(9, 0, 2).hold(0));
            refuses("innings 2, fresh", STATE, () -> duel(9, 0, 0, 0, 0, 0).hold(0));
            refuses("innings 2", STATE, () -> duel(9, 0, 0, 0, 0, 0, 0).hold(0));
            refuses("innings 3, won", STATE, () -> duel(9, 0, 0, 0, 0, 0, 0, 0, 3).hold(0));
            refuses("innings 3, a draw", STATE, () -> duel(7, 0, 0, 0, 0, 0, 0, 0, 2).hold(0));
        });
        says("DECLARED: LEAD of the SIDE that batted. IllegalStateException: ahead of the TOSS, OVER, FRESH, or in INNINGS 3", () -> {
            due("above 0", duel(9, 1, 1).declare(), 9);
            due("below 0", duel(9, 1, 3, 0, 2).declare(), -1);
            refuses("ahead of the toss", STATE, () -> duelGround(9).declare());
            refuses("over", STATE, () -> duel(1, 0, 2).declare());
            refuses("fresh", STATE, () -> duel(9, 0).declare());
            refuses("fresh, innings 1", STATE, () -> duel(9, 0, 0, 0).declare());
            refuses("fresh, innings 2", STATE, () -> duel(9, 0, 0, 0, 0, 0).declare());
            refuses("innings 3", STATE, () -> duel(9, 0, 0, 0, 0, 0, 0, 0, 2).declare());
        });
        says("Made to follow on: LEAD of the SIDE that batted first. IllegalStateException: it may not", () -> {
            due("the lead", tell(duel(9, 1, 1, 3, 0, 3), "margin 0").follow(), 9);
            refuses("ahead of the toss", STATE, () -> told("margin 0").follow());
            refuses("innings 0", STATE, () -> tell(duel(9, 0), "margin 0").follow());
            refuses("innings 3", STATE, () -> tell(duel(9, 0, 0, 0, 0, 0, 0, 0), "margin 0").follow());
            refuses("over as innings 2 begins", STATE, () -> tell(duel(4, 0, 0, 0, 0, 0), "margin 0").follow());
        });
        says("A new MATCH: how many SESSIONS had been PLAYED", () -> {
            due("ahead of the toss", new TossGround().anew(), 0);
            due("behind it", duel(9, 0).anew(), 0);
            due("one", duel(9, 0, 0).anew(), 1);
            due("all nine", duel(9, 0, 2, 2, 2, 2, 2, 2, 2, 2, 2).anew(), 9);
        });
    }

    // ---- what is asked of the match

    static void whatTheMatchTells() {
        says("THE MATCH: what 0 which SIDE batted first (NONE ahead of the TOSS)", () -> {
            due("ahead of the toss", new TossGround().match(0), -1);
            due("side 0", duel(9, 0).match(0), 0);
            due("side 1, the other one batting", duel(9, 1, 0, 0).match(0), 1);
            due("over", duel(1, 1, 0).match(0), 1);
        });
        says("1 INNINGS, 2 OUT, 3 and 4 RUNS of SIDE 0, 1", () -> {
            match(duel(9, 0), 0, 0, 0, 0, 0);
            match(duel(9, 0, 1, 3, 3), 0, 1, 1, 10, 1);
            match(duel(9, 1, 1, 3, 3), 1, 1, 1, 1, 10);
            match(duel(9, 1, 3, 0, 3, 0, 0, 0, 0, 0), 1, 3, 10, 1, 1);
        });
        says("7 1 if it followed on", () -> {
            TossGround x = tell(duel(9, 0, 0, 0, 0, 0), "margin 0");
            due("it may", x.match(7), 0);
            x.follow();
            due("it did", x.match(7), 1);
            due("in innings 3", bring(x, 0, 0).match(7), 1);
            due("over", bring(x, 3).match(7), 1);
            x.anew();
            due("in a new match", x.match(7), 0);
        });
        says("5 which SIDE bats (NONE ahead of the TOSS, or OVER)", () -> {
            due("ahead of the toss", new TossGround().match(5), -1);
            due("behind it", duel(1, 0).match(5), 0);
            due("over", duel(1, 0, 0).match(5), -1);
            due("won", duel(9, 0, 0, 0, 0, 0, 0, 0, 3).match(5), -1);
        });
        says("6 SESSIONS PLAYED", () -> {
            due("none", duel(9, 0).match(6), 0);
            due("all", duel(9, 0, 2, 2, 2, 2, 2, 2, 2, 2, 2).match(6), 9);
        });
        says("8 who won (2 a draw; NONE, if not OVER)", () -> {
            due("ahead of the toss", new TossGround().match(8), -1);
            due("not over", duel(9, 0, 0).match(8), -1);
            due("a draw", duel(1, 0, 0).match(8), 2);
            due("side 0", duel(9, 0, 3, 0, 0, 0, 0, 0, 0, 0).match(8), 0);
            due("side 1", duel(9, 1, 3, 0, 0, 0, 0, 0, 0, 0).match(8), 1);
        });
        says("9 1 if FOLLOW ON may be made, 10 1 if FRESH. NoSuchElementException: another what", () -> {
            within("what", ELEMENT, 0, 10, n -> new TossGround().match(n));
            due("ahead of the toss it is not fresh", told("margin 0").match(10), 0);
            due("nor may it be made", told("margin 0").match(9), 0);
        });
        says("FORM: RUNS of a SIDE in a DAY (0 to 2). IllegalArgumentException: the DAY is none", () -> {
            within("side", INDEX, 0, 1, n -> new TossGround().form(n, 0));
            within("day", ARGUMENT, 0, 2, n -> told("sessions 1").form(0, n));
            TossGround x = tell(told("sessions 9"), flat(1, 1, 0));
            due("ahead of the toss", x.form(0, 0), 0);
            x.toss(0);
            for (int i = 0; i < 9; i++) {
                x.bring(0);
                due("day 0 behind session " + i, x.form(0, 0), Math.min(3, i + 1));
                due("day 1 behind session " + i, x.form(0, 1), Math.max(0, Math.min(3, i - 2)));
                due("day 2 behind session " + i, x.form(0, 2), Math.max(0, i - 5));
            }
            due("the other side", x.form(1, 0) + x.form(1, 1) + x.form(1, 2), 0);
            x.anew();
            due("a new match", x.form(0, 0), 0);
        });
        says("RUNS that it made in THE MATCH in a DAY", () -> {
            TossGround x = duel(9, 0, 3, 0, 3, 0, 1, 0);
            due("side 0 on day 0", x.form(0, 0), 1);
            due("side 1 on day 0", x.form(1, 0), 1);
            due("side 0 on day 1", x.form(0, 1), 9);
            due("side 1 on day 1", x.form(1, 1), 0);
            x.hold(1);
            due("held", x.form(1, 2), 0);
            x.undo();
            x.bring(3);
            due("played", x.form(1, 2), 1);
        });
        says("of a SESSION PLAYED what 0 INNINGS, 1 which SIDE batted, 2 LEVEL, 3 SLOT, 4 LEAD, 5 OUT, 6 RUNS (as they counted)", () -> {
            TossGround x = lawOf(tell(duel(9, 1), "rain 2", flat(0, 4, 0)), "hard 1");
            bring(x, 1, 3, 1);
            x.bring(3);
            lawOf(x, "hard 0");
            x.bring(2);
            log(x, 0, 0, 1, 1, 1, 9, 9, 9);
            log(x, 1, 0, 1, 1, 3, 10, 10, 1);
            log(x, 2, 1, 0, 1, 1, -10, 0, 0);
            log(x, 3, 1, 0, 1, 3, -9, 1, 1);
            log(x, 4, 1, 0, 0, 2, -5, 1, 4);
            TossGround y = duel(9, 0, 3, 0, 0, 0, 0, 0);
            y.hold(1);
            log(y, 6, 3, 1, 1, 1, -1, 8, 0);
        });
        says("- 99 without. NoSuchElementException: another what", () -> {
            TossGround x = duel(2, 0, 1);
            for (int session : new int[] {-1, 1, 2, 9, 1000, Integer.MAX_VALUE, Integer.MIN_VALUE}) {
                for (int what = 0; what < 7; what++) due("session " + session, x.log(session, what), -99);
            }
            due("the one that was", x.log(0, 6), 9);
            within("what", ELEMENT, 0, 6, n -> x.log(0, n));
            refuses("what 7 of a session that was not", ELEMENT, () -> x.log(5, 7));
            x.undo();
            due("undone", x.log(0, 6), -99);
            due("the last of nine", duel(9, 0, 2, 2, 2, 2, 2, 2, 2, 2, 3).log(8, 6), 1);
        });
    }

    static void log(TossGround x, int session, int... want) {
        for (int what = 0; what < 7; what++) due("log(" + session + ", " + what + ")", x.log(session, what), want[what]);
    }

    // ---- seed, undone, image, counts

    static void seeds() {
        says("SEED: what it was", () -> {
            TossGround x = new TossGround();
            due("at first", x.seed(Integer.MIN_VALUE), 1);
            due("the least", x.seed(Integer.MAX_VALUE), Integer.MIN_VALUE);
            due("the greatest", x.seed(0), Integer.MAX_VALUE);
            due("0", x.seed(1), 0);
            due("that is no act", x.count(10), 0);
        });
    }

    static void undoes(String what, TossGround x, Act act) {
        String before = all(x);
        act.on(x);
        due(what + " is undone", x.undo(), true);
        same("ahead of " + what, all(x), before);
    }

    static void undone() {
        says("UNDONE: whether there was one", () -> {
            TossGround x = new TossGround();
            due("of a new one", x.undo(), false);
            same("nothing happened", all(x), all(new TossGround()));
            x.toss(0);
            due("there was", x.undo(), true);
            due("no more", x.undo(), false);
        });
        says("the latest ACT not undone yet (12 are remembered)", () -> {
            TossGround x = duel(9, 0);
            String behindToss = state(x);
            for (int i = 1; i <= 12; i++) {
                due("acts", x.count(10), i);
                if (i <= 9) x.bring(2);
                else x.anew();
            }
            due("12 of 13", x.count(10), 12);
            for (int i = 1; i <= 12; i++) due("undo " + i, x.undo(), true);
            due("none is left", x.count(10), 0);
            due("the toss is not undone", x.undo(), false);
            same("as it was behind the toss", state(x), behindToss);
            bring(x, 3, 1);
            x.undo();
            due("acts go on from there", x.bring(1), 10);
            x.undo();
            due("the latest alone", x.match(3), 1);
            x.undo();
            same("both are undone", state(x), behindToss);
        });
        says("all is as ahead of it (but for the TAPE, fault(), THE IMAGE)", () -> {
            undoes("the toss", duelGround(9), x -> x.toss(1));
            undoes("a session by draw", duel(9, 0), x -> x.play());
            undoes("a told one", duel(9, 0, 3), x -> x.bring(1));
            undoes("one that ended innings 0", duel(9, 0, 3), x -> x.bring(0));
            undoes("one by which it was over", duel(9, 0, 0, 0, 0, 0, 0, 0), x -> x.bring(3));
            undoes("the last one", duel(1, 0), x -> x.bring(3));
            undoes("one that was held", duel(9, 0, 0, 0, 0, 0, 0, 0), x -> x.hold(1));
            undoes("declared", duel(9, 0, 1), x -> x.declare());
            undoes("made to follow on", tell(duel(9, 0, 1, 0, 0, 0), "margin 9"), x -> x.follow());
            undoes("a new match", duel(9, 0, 1, 0, 3), x -> x.anew());
            undoes("a new match ahead of the toss", duelGround(9), x -> x.anew());
            undoes("the seed told behind it", duel(9, 0), x -> x.seed(x.bring(3) + 41));
            TossGround again = duel(9, 0, 3, 1, 3);
            String before = all(again);
            again.anew();
            again.toss(1);
            bring(again, 0, 3, 0, 2);
            for (int i = 0; i < 6; i++) again.undo();
            same("ahead of a new match and all of its sessions", all(again), before);
            TossGround x = duel(9, 0, 3);
            x.image();
            bring(x, 3);
            groundFault(x, "margin x");
            bring(tape(x, "margin 6"), 3);
            x.undo();
            due("fault() stays", x.fault(), 7);
            due("the tape stays", x.ground() + x.count(1), 8);
            x.back();
            due("the image stays", x.match(3), 1);
        });
        says("A text, going back: none are remembered", () -> {
            TossGround x = duel(9, 0, 3);
            due("two acts", x.count(10), 2);
            groundFault(x, "grass");
            lawFault(x, "grass");
            due("wrong texts leave them", x.count(10), 2);
            x.back();
            due("so does an image that is not there", x.count(10), 2);
            x.image();
            due("and one that is kept", x.count(10), 2);
            tell(x, "");
            due("a text of the ground, though empty", x.count(10), 0);
            due("nothing is undone", x.undo(), false);
            due("the match goes on", x.bring(3), 2);
            due("one act", x.count(10), 1);
            lawOf(x, "");
            due("a law, though empty", x.count(10), 0);
            due("nothing is undone", x.undo(), false);
            bring(x, 3);
            x.back();
            due("going back", x.count(10), 0);
            due("nothing is undone", x.undo(), false);
            TossGround y = tell(duel(9, 0, 3), "", "", "", "", "", "", "", "", "", "", "");
            bring(y, 3);
            refuses("a 13th text", UNSUPPORTED, () -> tape(y, "").ground());
            due("leaves them", y.count(10), 1);
        });
    }

    static void images() {
        says("THE IMAGE (one) of all may be kept, and gone back to (but for the TAPE, fault() and THE IMAGE itself)", () -> {
            TossGround x = lawOf(tell(duel(9, 0, 3), "cloud 1;book 0 0 0"), "hard 2;hard 1 if cloud");
            x.seed(99);
            x.image();
            String kept = state(x);
            lawOf(tell(x, "side 0 bat 1 bowl 1;side 1 bat 2 bowl 2;cloud 2;tide 2;rain 2;margin 1;drawworth 1;book 1 1 1"), "hard 0;hard 1;hard 1 if tide");
            for (int level = 0; level < 4; level++) tell(x, flat(level, 7, 8));
            bring(x, 1);
            x.anew();
            x.toss(1);
            bring(x, 0, 2, 1);
            x.anew();
            tell(x, "sessions 2");
            x.seed(5);
            groundFault(x, "margin x");
            tape(x, "margin 6");
            due("back", x.back(), true);
            same("all is as it was", state(x), kept);
            due("fault() stays", x.fault(), 7);
            due("the tape stays", x.ground() + x.count(1), 9);
            tell(x, "book 1 0 2;side 1 bat 0 bowl 0");
            due("back again", x.back(), true);
            same("the image stays", state(x), kept);
            TossGround y = duel(9, 0, 3);
            y.image();
            bring(y, 3);
            y.image();
            String later = state(y);
            y.anew();
            y.back();
            same("the one that was kept last", state(y), later);
        });
        says("One goes back to THE IMAGE: true; false, and nothing happens, if none was kept", () -> {
            TossGround x = tape(duel(9, 0, 3), "margin 6");
            String before = all(x);
            due("none was kept", x.back(), false);
            same("nothing happened", all(x), before);
            due("nor to the tape", x.ground(), 2);
            due("nor is one kept by it", x.back(), false);
            x.image();
            due("one was", x.back(), true);
        });
        says("THE IMAGE is kept", () -> {
            TossGround x = new TossGround();
            x.image();
            x.toss(0);
            x.back();
            due("of a new one", x.match(0), -1);
            x.toss(1);
            x.image();
            x.anew();
            x.back();
            due("the later one", x.match(0), 1);
        });
    }

    static void counts() {
        says("0 S, 1 MARGIN, 2 DRAWWORTH, 3 texts of THE GROUND, 4 LINES of THE LAW (NONE without one), 5 old matches, 6 SESSIONS with CLOUD, 7 with TIDE, 8 with RAIN, as bits, "
            + "9 SESSIONS left, 10 acts that can be UNDONE. NONE for another what", () -> {
            TossGround x = told("sessions 9;margin 98;drawworth 97;cloud 0;tide 8;rain 0 8;book 0 0 0;book 0 0 0");
            due("without a law", x.count(4), -1);
            due("sessions left, ahead of the toss", x.count(9), 9);
            lawOf(x, "hard 1;hard 1;hard 1");
            x.toss(0);
            x.bring(0);
            int[] want = {9, 98, 97, 1, 3, 2, 1, 256, 257, 8, 2};
            for (int what = 0; what < 11; what++) due("count(" + what + ")", x.count(what), want[what]);
            for (int what : new int[] {-1, 11, Integer.MIN_VALUE, Integer.MAX_VALUE}) due("count(" + what + ")", x.count(what), -1);
            due("an empty law has no line", lawOf(x, "").count(4), 0);
            due("sessions left, all played", duel(2, 0, 2, 2).count(9), 0);
            due("sessions left, won ahead of the last one", duel(9, 0, 0, 0, 3, 0, 0, 0).count(9), 3);
        });
        says("An object is used for at most 512 calls after it has been made", () -> {
            TossGround x = new TossGround();
            x.toss(0);
            for (int i = 2; i < 500; i++) x.anew();
            for (int i = 500; i < 512; i++) due("call " + i, x.undo(), true);
            due("call 512", x.undo(), false);
        });
    }

    public static void main(String[] args) {
        innings();
        innings0to2End();
        over();
        followOn();
        draws();
        acts();
        whatTheMatchTells();
        seeds();
        undone();
        images();
        counts();
        end();
    }
}
