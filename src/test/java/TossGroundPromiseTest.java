/** Each promise of the document by its number: ordinary inputs, edges, wrong inputs. */
public final class TossGroundPromiseTest extends TossGroundTools {
    static int wrong = 0;
    static int asked = 0;

    static void due(int promise, String what, long got, long want) {
        asked++;
        if (got != want) {
            wrong++;
            System.out.println("promise " + promise + ": " + what + " answered " + got + ", due is " + want);
        }
    }

    static void due(int promise, String what, boolean got, boolean want) {
        due(promise, what, got ? 1 : 0, want ? 1 : 0);
    }

    static void refuses(int promise, String what, Class<?> want, Call call) {
        asked++;
        Class<?> got = thrownBy(call);
        if (got != want) {
            wrong++;
            System.out.println("promise " + promise + ": " + what + " threw " + got + ", due is " + want);
        }
    }

    static void p1() {
        TossGround x = new TossGround();
        int[] counts = {6, 15, 40, 0, -1, 0, 0, 0, 0, 6, 0};
        for (int i = 0; i < counts.length; i++) due(1, "count " + i, x.count(i), counts[i]);
        int[] match = {-1, 0, 0, 0, 0, -1, 0, 0, -1, 0, 0};
        for (int i = 0; i < match.length; i++) due(1, "match " + i, x.match(i), match[i]);
        for (int s = 0; s < 2; s++) {
            due(1, "bat", x.side(s, false), 5);
            due(1, "bowl", x.side(s, true), 5);
        }
        for (int l = 0; l < 4; l++) {
            for (int k = 0; k < 4; k++) {
                due(1, "runs", x.slot(l, k, false), 3);
                due(1, "outs", x.slot(l, k, true), 2);
            }
        }
        due(1, "level without a law", x.level(5, 3, 1), 1);
        due(1, "NONE", TossGround.NONE, -1);
    }

    static void p2to3() {
        TossGround x = new TossGround();
        for (int i = 1; i <= 20; i++) due(2, "feed", x.feed(i, 0, 0, 0, 0), 20 * i);
        due(2, "feed beyond 400", x.feed(1, 2, 3, 4, 5), -1);
        due(3, "end beyond", x.end(401), false);
        due(3, "end below 0", x.end(-1), false);
        due(3, "end of all", x.end(400), true);
        due(3, "end", x.end(381), true);
        due(2, "feed that would have 401", x.feed(0, 0, 0, 0, 0), -1);
        due(3, "end by one", x.end(380), true);
        due(2, "feed to 400", x.feed(0, 0, 0, 0, 0), 400);
        due(3, "end 0", x.end(0), true);
        due(3, "end of more than there are", x.end(1), false);
        // the highest byte of each number comes first
        x.feed(0x6d617267, 0x696e2037, 0x20202020, 0x20202020, 0x20202020);
        due(2, "text by bytes", x.ground(), 1);
        due(2, "margin", x.count(1), 7);
        due(2, "the tape is used up", x.feed(0, 0, 0, 0, 0), 20);
    }

    static void p4() {
        TossGround x = told("sessions 9;side 1 bat 0 bowl 9;slot 3 2 runs 9 outs 0;margin 0;drawworth 100;cloud 0 8;tide 3;rain 1 2;book 1 0 2");
        due(4, "S", x.count(0), 9);
        due(4, "bat", x.side(1, false), 0);
        due(4, "bowl", x.side(1, true), 9);
        due(4, "other bat", x.side(0, false), 5);
        due(4, "runs", x.slot(3, 2, false), 9);
        due(4, "outs", x.slot(3, 2, true), 0);
        due(4, "other slot", x.slot(2, 2, false), 3);
        due(4, "margin", x.count(1), 0);
        due(4, "drawworth", x.count(2), 100);
        due(4, "cloud", x.count(6), 257);
        due(4, "tide", x.count(7), 8);
        due(4, "rain", x.count(8), 6);
        due(4, "books", x.count(5), 1);
        tell(x, "cloud 1;rain 2;margin 99;margin 3");
        due(4, "cloud, more of these", x.count(6), 259);
        due(4, "rain, the same", x.count(8), 6);
        due(4, "the latest margin", x.count(1), 3);
        due(4, "texts", x.count(3), 2);
        due(4, "blanks need not be", groundFault(x, "side0bat1bowl2;cloud3;book0 1 2"), -1);
        due(4, "blanks may be", groundFault(x, "   side   0  bat 001 bowl  010  "), 27);
        due(4, "blanks may be", groundFault(x, "   side   0  bat 001 bowl  009  "), -1);
        due(4, "bat 001", x.side(0, false), 1);
        due(4, "blanks alone", groundFault(x, "    "), -1);
        due(4, "texts", x.count(3), 5);
        TossGround y = new TossGround();
        for (int i = 1; i <= 12; i++) due(4, "texts", tape(y, "").ground(), i);
        refuses(4, "a 13th", UNSUPPORTED, () -> tape(y, "margin 4").ground());
        due(4, "nothing stays", y.count(1), 15);
        due(4, "fault of a right one that is refused", y.fault(), -1);
        refuses(4, "a 13th that is wrong", ARGUMENT, () -> tape(y, "margin x").ground());
        due(4, "its fault", y.fault(), 7);
        due(4, "texts stay 12", y.count(3), 12);
        due(4, "the tape is used up by a refused one", y.feed(0, 0, 0, 0, 0), 20);
    }

    static void groundFaults() {
        TossGround x = new TossGround();
        String[] texts = {"sessions 0", "sessions 10", "sessions 0001", "side 2 bat 1 bowl 1", "side 0 bowl 1 bat 1", "slot 0 0 runs 1",
            "slot 0 0 runs 1 out 1", "cloud", "cloud ;", "cloud 9", "cloud 1 2 0003", "cloud 12", "margin 100", "margin 99 1", "drawworth 101",
            "book 0 0 3", "book 2 0 0", "book 0 0", "grass", "cloudz 1", "clouds 1", "Cloud 1", "cloud 1;", "cloud 1;  ", ";cloud 1", "cloud 1;;cloud 1",
            "cloud 1 rain 1", "margin 5,", "margin\t5", "cloud 1 x", " 5", "hard 1", times("rain 1", 15, ";"), times("rain 1", 14, ";") + ";",
            times("rain 1", 14, ";") + " ; x", "margin 5" + (char) 233};
        int[] due = {9, 9, 9, 5, 7, 15, 16, 5, 6, 6, 10, 6, 7, 10, 10, 9, 5, 8, 0, 0, 0, 0, 8, 10, 0, 8, 8, 8, 6, 8, 1, 0, 98, 98, 100, 8};
        for (int i = 0; i < texts.length; i++) due(6, "'" + texts[i] + "'", groundFault(x, texts[i]), due[i]);
        due(6, "nothing stays of wrong ones", x.count(8) + x.count(6) + x.count(3) + x.count(5), 0);
        due(6, "14 lines", groundFault(x, times("rain 1", 14, ";")), -1);
        due(6, "a wrong one behind right lines", groundFault(x, "margin 1;book 0 0 0;cloud 9"), 26);
        due(6, "of it nothing stays", x.count(1) + x.count(5), 15);
        x.toss(0);
        due(6, "sessions behind the toss", groundFault(x, "margin 2; sessions 3"), 10);
        due(6, "sessions likewise, though its number is wrong", groundFault(x, "sessions 0"), 0);
        x.anew();
        due(6, "sessions in a new match", groundFault(x, "sessions 3"), -1);
        TossGround y = new TossGround();
        for (int i = 0; i < 4; i++) tell(y, times("book 0 1 2", 14, ";"));
        due(6, "books", y.count(5), 56);
        due(6, "a 61st book", groundFault(y, times("book 1 1 1", 5, "; ")), 48);
        due(6, "books stay", y.count(5), 56);
        due(6, "60 books", groundFault(y, times("book 1 1 1", 4, ";")), -1);
        due(6, "one more", groundFault(y, "margin 1;book 1 1 1"), 9);
        due(6, "one more, wrong else too", groundFault(y, "book 7"), 0);
    }

    static void p5() {
        TossGround x = told("cloud 1;tide 2;side 0 bat 3 bowl 7;side 1 bat 4 bowl 2");
        due(5, "lines", tape(x, "hard 1; hard 2 if cloud").law(), 2);
        due(5, "count of lines", x.count(4), 2);
        due(5, "level", x.level(0, 0, 0), 1);
        due(5, "level with cloud", x.level(1, 0, 0), 3);
        due(5, "in place of the one before", tape(x, "hard 9").law(), 1);
        due(5, "3 at most", x.level(0, 0, 0), 3);
        due(5, "an empty law", tape(x, "").law(), 0);
        due(5, "level of an empty law", x.level(1, 0, 0), 0);
        due(5, "blanks alone", tape(x, "  ").law(), 0);
        refuses(5, "a wrong law", ARGUMENT, () -> tape(x, "hard 3;hard").law());
        due(5, "stays as it was", x.count(4), 0);
        due(5, "the tape is used up", x.feed(0, 0, 0, 0, 0), 20);
        x.end(0);
        due(5, "12 lines", tape(x, times("hard 0", 12, ";")).law(), 12);
        law(x, "bat<bowl", 0, 0, 0, 0);
        law(x, "bat>bowl", 0, 0, 0, 1);
        law(x, "bat > bowl + 9", 0, 0, 0, 0);
        law(x, "bat<bowl", 0, 0, 1, 1);
        law(x, "side>0", 0, 0, 1, 1);
        law(x, "session + 1 > 3 + day", 3, 0, 0, 0);
        law(x, "session + 1 > 3 + day", 4, 0, 0, 1);
        law(x, "innings < 3", 0, 3, 0, 0);
        law(x, "innings < 3", 0, 2, 0, 1);
        law(x, "tide or cloud and session > 1", 1, 0, 0, 0);
        law(x, "(tide or cloud) and session < 2", 1, 0, 0, 1);
        law(x, "tide or cloud and session < 2", 2, 0, 0, 1);
        law(x, "not tide and cloud", 1, 0, 0, 1);
        law(x, "not (tide and cloud)", 2, 0, 0, 1);
        law(x, "not not tide", 2, 0, 0, 1);
        law(x, "not 1 < 2 or tide", 0, 0, 0, 0);
        law(x, "((((((tide))))))", 2, 0, 0, 1);
        law(x, "not(not(not(tide)))", 2, 0, 0, 0);
        law(x, "999>998", 0, 0, 0, 1);
        law(x, "day < 1", 3, 0, 0, 0);
    }

    static void law(TossGround x, String c, int session, int innings, int side, int want) {
        lawOf(x, "hard 1 if " + c);
        due(5, c, x.level(session, innings, side), want);
    }

    static void lawFaults() {
        TossGround x = new TossGround();
        String[] texts = {"hard", "hard 10", "hard 1 if", "hard 1 if bat", "hard 1 if (tide", "tax", "hard 1;", "hard 1 if cloud tide", "hard 1 if cloud)",
            "hard 1 if ()", "hard 1 if (1)", "hard 1 if 1 < 2 < 3", "hard 1 if 1 + < 2", "hard 1 if 0001 < 2", "hard 1 if 1 = 2", "hard 1 if not", "hard 1 iftide",
            "hard 1 if cloud and", "hard 1 if cloud or or tide", "hard 1 if (cloud;hard 1", "hard 1 if cloud + 1 > 2", "hard 1 if 1 < cloud", "hard 1 if session",
            "hard 1 if sessions > 1", "hard 1 not cloud", "hard 1 if " + times("not", 7, " ") + " tide", "hard 1 if " + times("(", 7, ""), "hard 1 if not((not(not((",
            times("hard 1", 13, ";"), times("hard 1", 12, ";") + ";", "hard 1 if 1 < 2;  ", "hard -1", "1"};
        int[] due = {4, 5, 9, 13, 15, 0, 7, 16, 15, 11, 12, 16, 14, 10, 12, 13, 7, 19, 19, 16, 16, 14, 17, 10, 7, 34, 16, 22, 84, 84, 18, 5, 0};
        for (int i = 0; i < texts.length; i++) due(6, "'" + texts[i] + "'", lawFault(x, texts[i]), due[i]);
        due(6, "6 deep, and again", lawFault(x, "hard 1 if not((not(not tide))) and ((((((tide)))))) or not not not not not not cloud"), -1);
        due(6, "ahead of any", new TossGround().fault(), -1);
        lawFault(x, "x");
        due(6, "the latest", x.fault(), 0);
        x.image();
        groundFault(x, "margin 100");
        x.back();
        due(6, "going back leaves it", x.fault(), 7);
        groundFault(x, "");
        due(6, "a right one", x.fault(), -1);
    }

    static void p7to10() {
        TossGround x = told("cloud 4;tide 5;rain 3", "sessions 8");
        refuses(7, "side 2", INDEX, () -> x.side(2, false));
        refuses(7, "side -1", INDEX, () -> x.side(-1, true));
        refuses(8, "level 4", INDEX, () -> x.slot(4, 0, false));
        refuses(8, "slot 4", INDEX, () -> x.slot(0, 4, false));
        refuses(8, "level -1", INDEX, () -> x.slot(-1, 0, false));
        for (int i = 0; i < 8; i++) {
            due(9, "day", x.session(i, 0), i < 3 ? 0 : i < 6 ? 1 : 2);
            due(9, "cloud", x.session(i, 1), i == 4 ? 1 : 0);
            due(9, "tide", x.session(i, 2), i == 5 ? 1 : 0);
            due(9, "rain", x.session(i, 3), i == 3 ? 1 : 0);
        }
        refuses(9, "session 8", INDEX, () -> x.session(8, 9));
        refuses(9, "session -1", INDEX, () -> x.session(-1, 0));
        refuses(9, "what 4", ELEMENT, () -> x.session(7, 4));
        refuses(10, "session 8", INDEX, () -> x.level(8, 0, 0));
        refuses(10, "innings 4", INDEX, () -> x.level(0, 4, 0));
        refuses(10, "side 2", INDEX, () -> x.level(0, 0, 2));
        lawOf(x, "hard 1 if session > 2; hard 1 if innings > 1; hard 1 if side > 0");
        due(10, "level", x.level(0, 0, 0), 0);
        due(10, "level", x.level(3, 2, 1), 3);
        due(10, "level", x.level(2, 2, 0), 1);
        tell(x, "side 0 bat 9 bowl 0");
        lawOf(x, "hard 2 if bat > 8;hard 1 if bowl < 1");
        due(10, "bat of who bats", x.level(0, 0, 0), 2);
        due(10, "bowl of the other one", x.level(0, 0, 1), 1);
        tell(x, "side 0 bat 0 bowl 5");
        due(10, "by the ground as it is now", x.level(0, 0, 0), 0);
    }

    static void p11to18() {
        // 4 runs and 5 outs in all: two sessions an innings
        TossGround x = told(flat(1, 4, 5), "sessions 9;margin 8");
        refuses(11, "what 11", ELEMENT, () -> x.match(11));
        refuses(11, "what -1", ELEMENT, () -> x.match(-1));
        refuses(12, "side 2", INDEX, () -> x.toss(2));
        refuses(13, "ahead of the toss", STATE, () -> x.play());
        refuses(14, "slot first", INDEX, () -> x.bring(4));
        refuses(14, "ahead of the toss", STATE, () -> x.bring(0));
        refuses(15, "slot first", INDEX, () -> x.hold(-1));
        refuses(15, "ahead of the toss", STATE, () -> x.hold(0));
        refuses(16, "ahead of the toss", STATE, () -> x.declare());
        refuses(17, "ahead of the toss", STATE, () -> x.follow());
        due(48, "none of these is an act", x.count(10), 0);
        due(12, "toss", x.toss(1), 1);
        refuses(12, "it was", STATE, () -> x.toss(0));
        refuses(12, "side before that", INDEX, () -> x.toss(2));
        match(x, 1, 0, 0, 0, 0, 1, 0, 0, -1, 0, 1);
        refuses(16, "fresh", STATE, () -> x.declare());
        refuses(15, "innings 0", STATE, () -> x.hold(0));
        due(14, "bring", x.bring(3), 4);
        match(x, 1, 0, 5, 0, 4, 1, 1, 0, -1, 0, 0);
        due(14, "bring", x.bring(0), 8);
        match(x, 1, 1, 0, 0, 8, 0, 2, 0, -1, 0, 1);
        refuses(17, "innings 1", STATE, () -> x.follow());
        due(14, "bring by the other one", x.bring(0), -4);
        due(16, "declare", x.declare(), -4);
        match(x, 1, 2, 0, 4, 8, 1, 3, 0, -1, 0, 1);
        refuses(17, "below the margin", STATE, () -> x.follow());
        x.undo();
        x.undo();
        // no runs for side 0 in innings 1
        tell(x, "margin 4", flat(1, 2, 9));
        due(14, "bring", x.bring(0), -6);
        due(14, "bring", x.bring(0), -4);
        match(x, 1, 2, 0, 4, 8, 1, 4, 0, -1, 1, 1);
        due(17, "follow", x.follow(), 4);
        match(x, 1, 2, 0, 4, 8, 0, 4, 1, -1, 0, 1);
        refuses(17, "it did", STATE, () -> x.follow());
        refuses(16, "fresh", STATE, () -> x.declare());
        due(14, "bring", x.bring(0), -2);
        due(16, "declared, and the other one, who is to bat, leads", x.declare(), -2);
        match(x, 1, 3, 0, 6, 8, -1, 5, 1, 1, 0, 1);
        refuses(13, "over", STATE, () -> x.play());
        refuses(14, "over", STATE, () -> x.bring(0));
        refuses(15, "over", STATE, () -> x.hold(0));
        refuses(16, "over", STATE, () -> x.declare());
        refuses(17, "over", STATE, () -> x.follow());
        due(18, "anew", x.anew(), 5);
        match(x, -1, 0, 0, 0, 0, -1, 0, 0, -1, 0, 0);
        due(18, "the log is empty", x.log(0, 6), -99);
        due(18, "anew again", x.anew(), 0);
        due(12, "toss anew", x.toss(0), 1);
    }

    static void match(TossGround x, int... want) {
        for (int i = 0; i < want.length; i++) due(11, "match " + i, x.match(i), want[i]);
    }

    /** How matches end, by the order in which it is asked. */
    static void ends() {
        TossGround x = told(flat(1, 2, 9), "sessions 9;slot 1 1 runs 9 outs 9;slot 1 2 runs 2 outs 1;slot 1 3 runs 0 outs 9");
        x.toss(0);
        for (int i = 0; i < 6; i++) x.bring(i == 5 ? 3 : 0);
        due(11, "innings 3", x.match(1), 3);
        due(11, "fresh", x.match(10), 1);
        x.image();
        due(15, "hold", x.hold(0), -2);
        due(15, "outs one less", x.match(2), 8);
        due(15, "no runs", x.match(4), 4);
        x.back();
        due(15, "outs one less, 0 at least", x.hold(2), -2);
        due(11, "out 0", x.match(2), 0);
        due(11, "not fresh", x.match(10), 0);
        x.back();
        due(14, "the other one passes", x.bring(1), 7);
        match(x, 0, 3, 9, 6, 13, -1, 7, 0, 1, 0, 0);
        x.back();
        x.bring(0);
        due(14, "passing with the last one out", x.bring(1), 9);
        match(x, 0, 3, 10, 6, 15, -1, 8, 0, 1, 0, 0);
        x.back();
        x.bring(0);
        due(14, "out with a lead of 0", x.bring(3), 0);
        match(x, 0, 3, 10, 6, 6, -1, 8, 0, 2, 0, 0);
        x.back();
        x.bring(3);
        due(14, "out behind", x.bring(3), -2);
        match(x, 0, 3, 10, 6, 4, -1, 8, 0, 0, 0, 0);
        x.back();
        x.hold(2);
        x.hold(2);
        due(15, "all sessions were played", x.hold(2), -2);
        match(x, 0, 3, 0, 6, 4, -1, 9, 0, 2, 0, 0);
        TossGround y = told(flat(1, 0, 9), "sessions 5;slot 1 1 runs 9 outs 9;margin 0");
        y.toss(0);
        int[] slots = {0, 0, 0, 0};
        for (int s : slots) y.bring(s);
        due(17, "margin 0, lead 0", y.follow(), 0);
        due(14, "the last session, no innings ends", y.bring(1), 9);
        match(y, 0, 2, 9, 0, 9, -1, 5, 1, 2, 0, 0);
        TossGround z = told(flat(1, 0, 9), "sessions 2;margin 0");
        z.toss(0);
        z.bring(0);
        z.bring(0);
        match(z, 0, 1, 0, 0, 0, -1, 2, 0, 2, 0, 1);
        TossGround r = told(flat(1, 5, 5), "sessions 3;rain 0 2");
        r.toss(0);
        due(14, "rain", r.bring(0), 0);
        match(r, 0, 0, 0, 0, 0, 0, 1, 0, -1, 0, 0);
        due(16, "rain was a session played", r.declare(), 0);
        due(14, "no rain", r.bring(0), 5);
        due(14, "rain", r.bring(0), 5);
        match(r, 0, 1, 5, 0, 5, -1, 3, 0, 2, 0, 0);
        // a lead of the side that is to bat counts ahead of the sessions that are all played
        TossGround w = told(flat(1, 0, 9), "sessions 6;slot 1 1 runs 3 outs 9");
        w.toss(1);
        for (int i = 0; i < 5; i++) w.bring(i == 2 ? 1 : 0);
        due(14, "the last one of innings 2", w.bring(0), -3);
        match(w, 1, 3, 0, 3, 0, -1, 6, 0, 0, 0, 1);
    }

    static void p13and47() {
        TossGround x = told("sessions 9");
        x.toss(0);
        int seed = 1;
        for (int i = 0; i < 9; i++) {
            seed = seed * 1103515245 + 12345;
            due(13, "play", x.play(), (seed >>> 16 & 0x7fff) % 4);
            due(13, "log of the slot", x.log(i, 3), (seed >>> 16 & 0x7fff) % 4);
        }
        due(47, "seed", x.seed(-7), seed);
        due(47, "seed", x.seed(5), -7);
        refuses(13, "over", STATE, () -> x.play());
        due(47, "unchanged", x.seed(9), 5);
        x.anew();
        due(47, "it stays in a new match", x.seed(9), 9);
        x.toss(0);
        x.seed(77);
        x.undo();
        due(47, "all is as ahead of the act", x.seed(1), 9);
        due(47, "no act", x.count(10), 11);
    }

    /** One session is left in all these, so that the ways can be counted by hand. */
    static void p19to24() {
        // innings 0: 5 runs, innings 1: 0, innings 2: 5, then innings 3 with slots of its own
        TossGround x = told(flat(0, 5, 9), flat(2, 0, 9), "sessions 7;margin 50;slot 1 0 runs 9 outs 0;slot 1 1 runs 9 outs 9;slot 1 2 runs 1 outs 9;slot 1 3 runs 8 outs 3");
        lawOf(x, "hard 1 if innings > 2;hard 2 if innings > 0 and innings < 2;hard 0");
        refuses(19, "ahead of the toss", STATE, () -> x.here(7));
        refuses(23, "slot first", INDEX, () -> x.after(4, 9));
        refuses(23, "ahead of the toss", STATE, () -> x.after(0, 9));
        refuses(24, "ahead of the toss", STATE, () -> x.turning(false));
        refuses(33, "choice first", ARGUMENT, () -> x.cost(4));
        refuses(33, "ahead of the toss", STATE, () -> x.cost(0));
        refuses(40, "ahead of the toss", STATE, () -> x.blind(4));
        refuses(41, "ahead of the toss", STATE, () -> x.target(true));
        x.toss(1);
        refuses(19, "what 4", ELEMENT, () -> x.here(4));
        refuses(23, "what 4", ELEMENT, () -> x.after(0, 4));
        refuses(23, "what -1", ELEMENT, () -> x.after(0, -1));
        refuses(40, "what -1", ELEMENT, () -> x.blind(-1));
        due(19, "all", x.here(3), 16384);
        due(23, "all after one", x.after(1, 3), 4096);
        due(40, "all", x.blind(3), 16384);
        for (int what = 0; what < 3; what++) {
            long sum = 0;
            for (int slot = 0; slot < 4; slot++) sum += x.after(slot, what);
            due(19, "fresh innings 0 has no choice", x.here(what), sum);
        }
        x.bring(0);
        x.declare();
        x.bring(0);
        x.declare();
        x.bring(0);
        due(11, "lead", x.match(4), 10);
        due(16, "declare to innings 3", x.declare(), 10);
        due(41, "target", x.target(false), 11);
        due(41, "each of 4 sessions", x.target(true), 3);
        x.hold(0);
        x.hold(0);
        x.hold(0);
        due(41, "each of 1 session", x.target(true), 11);
        // 9 out 0 behind 10: nothing wins now; all draw
        due(19, "nobody", x.here(2), 4);
        x.undo();
        x.bring(0);
        match(x, 1, 3, 0, 9, 10, 0, 6, 0, -1, 0, 0);
        due(19, "side 0 wins by 9, 9, 8", x.here(0), 3);
        due(19, "side 1", x.here(1), 0);
        due(19, "nobody", x.here(2), 1);
        due(19, "all", x.here(3), 4);
        due(23, "after slot 0", x.after(0, 0), 1);
        due(23, "after slot 2: a draw", x.after(2, 2), 1);
        due(23, "all after", x.after(2, 3), 1);
        due(24, "the best, the first of several", x.turning(false), 0);
        due(24, "the worst", x.turning(true), 2);
        due(33, "go on", x.cost(0), 0);
        due(33, "hold: 340 less 160", x.cost(3), 180);
        refuses(33, "declare", STATE, () -> x.cost(1));
        refuses(33, "follow on", STATE, () -> x.cost(2));
        due(40, "blind", x.blind(0), 3);
        x.undo();
        x.bring(1);
        match(x, 1, 3, 9, 9, 10, 0, 6, 0, -1, 0, 0);
        // by slot 1 and 3 it wins ahead of being out, by slot 0 too, by slot 2 it is out with a lead of 0: a draw
        due(19, "side 0", x.here(0), 3);
        due(19, "nobody", x.here(2), 1);
        x.undo();
        x.bring(2);
        match(x, 1, 3, 9, 1, 10, 0, 6, 0, -1, 0, 0);
        // 9 behind: slots 0 and 1 make it level (slot 1 by all out), 2 and 3 are out behind
        due(40, "blind: side 1", x.blind(1), 2);
        due(40, "blind: nobody", x.blind(2), 2);
        // held: outs 0, 8, 8, 2: out but by slot 0
        due(33, "hold", x.cost(3), 40);
        due(33, "go on", x.cost(0), 0);
        due(19, "side 1", x.here(1), 2);
        due(19, "nobody", x.here(2), 2);
        tell(x, "slot 1 3 runs 8 outs 1;slot 1 2 runs 1 outs 1");
        // held: out by slot 1 alone; played: out behind by slots 2 and 3
        due(33, "hold", x.cost(3), 0);
        due(33, "go on", x.cost(0), 40);
        due(19, "side 1, held", x.here(1), 1);
        due(19, "nobody, held", x.here(2), 3);
        due(40, "side 1, blind", x.blind(1), 2);
        due(23, "after is not held", x.after(2, 1), 1);
        due(24, "the worst", x.turning(true), 2);
        due(24, "the best", x.turning(false), 0);
    }

    static void overHere() {
        TossGround x = told(flat(1, 1, 9), "sessions 9;slot 1 1 runs 9 outs 9");
        x.toss(0);
        for (int i = 0; i < 6; i++) x.bring(0);
        x.bring(1);
        due(11, "over", x.match(8), 1);
        due(19, "side 1 won, two sessions left", x.here(1), 16);
        due(19, "all", x.here(3), 16);
        due(19, "side 0", x.here(0), 0);
        due(19, "nobody", x.here(2), 0);
        due(40, "blind", x.blind(1), 16);
        due(51, "left", x.count(9), 2);
        refuses(23, "over", STATE, () -> x.after(0, 0));
        refuses(24, "over", STATE, () -> x.turning(true));
        refuses(33, "over", STATE, () -> x.cost(0));
        refuses(33, "hold, over", STATE, () -> x.cost(3));
        refuses(41, "over", STATE, () -> x.target(false));
    }

    static void p20to22() {
        TossGround x = told("sessions 1");
        refuses(20, "side 2", INDEX, () -> x.worth(2, 9));
        refuses(20, "what 4", ELEMENT, () -> x.worth(1, 4));
        refuses(20, "what -1", ELEMENT, () -> x.worth(1, -1));
        refuses(21, "side -1", INDEX, () -> x.evens(-1));
        for (int side = 0; side < 2; side++) {
            due(20, "bats", x.worth(side, 0), 160);
            due(20, "fields", x.worth(side, 1), 160);
            due(20, "less", x.worth(side, 2), 0);
            due(20, "left", x.worth(side, 3), 160);
            due(21, "evens", x.evens(side), 320);
        }
        // each innings is one session: 5 and 5 for who bats first, 1 and 1 for the other one, so who bats first wins
        TossGround y = told(flat(0, 5, 9), flat(1, 1, 9), "sessions 8;margin 99;drawworth 10;book 0 0 0;book 0 1 0;book 1 1 2;book 1 0 2;book 1 1 1");
        lawOf(y, "hard 1 if innings > 0 and innings < 2 or innings > 2");
        due(20, "bats first", y.worth(0, 0), 6553600);
        due(20, "fields", y.worth(0, 1), 0);
        due(20, "less", y.worth(0, 2), 6553600);
        due(20, "left: the other one bats", y.worth(0, 3), 0);
        due(21, "evens", y.evens(1), 6553600);
        due(22, "well: those who batted", y.well(), 3);
        lawOf(y, "hard 1 if innings < 1 or innings > 1 and innings < 3");
        due(20, "bats first", y.worth(0, 0), 0);
        due(20, "fields", y.worth(0, 1), 6553600);
        due(20, "left: the other one fields", y.worth(1, 3), 0);
        due(22, "well: those who fielded", y.well(), 2);
        lawOf(y, "hard 1 if side > 0");
        due(20, "the stronger side bats", y.worth(0, 0), 6553600);
        due(20, "the stronger side fields", y.worth(0, 1), 6553600);
        due(20, "left to the weaker one", y.worth(0, 3), 6553600);
        due(20, "the weaker side", y.worth(1, 0), 0);
        due(21, "evens", y.evens(0), 13107200);
        due(21, "evens", y.evens(1), 0);
        due(22, "well: a tie, either", y.well(), 5);
        due(22, "well without old matches", told("sessions 1").well(), 0);
        // the match that is on does not matter
        y.toss(1);
        y.bring(0);
        due(20, "as a new match", y.worth(0, 0), 6553600);
    }

    static void p25to32() {
        TossGround x = told("slot 1 0 runs 4 outs 2");
        refuses(25, "played 7", INDEX, () -> x.wins(7, 0, false, 99, 0, 0));
        refuses(25, "played -1", INDEX, () -> x.wins(-1, 0, false, 0, 0, 0));
        refuses(25, "innings 4", INDEX, () -> x.wins(6, 4, false, 99, 0, 0));
        refuses(25, "lead 82", ARGUMENT, () -> x.wins(6, 3, false, 82, 0, 9));
        refuses(25, "lead -82", ARGUMENT, () -> x.wins(6, 3, false, -82, 0, 9));
        refuses(25, "out 10", ARGUMENT, () -> x.wins(6, 3, false, 81, 10, 9));
        refuses(25, "out -1", ARGUMENT, () -> x.wins(6, 3, false, -81, -1, 9));
        refuses(25, "what 3", ELEMENT, () -> x.wins(6, 3, false, -81, 9, 3));
        refuses(25, "what -1", ELEMENT, () -> x.wins(6, 3, false, -81, 9, -1));
        due(25, "none is left", x.wins(6, 3, false, 5, 0, 2), 1);
        due(25, "none is left", x.wins(6, 3, false, 5, 0, 0), 0);
        due(25, "3 behind, one session", x.wins(5, 3, false, -3, 0, 0), 1);
        due(25, "3 behind, one session", x.wins(5, 3, true, -3, 0, 2), 3);
        due(25, "4 behind, 9 out", x.wins(5, 3, false, -4, 9, 1), 3);
        due(25, "4 behind, 8 out: held", x.wins(5, 3, false, -4, 8, 2), 4);
        due(25, "a lead that is not over, won by any session", x.wins(5, 3, false, 1, 0, 0), 4);
        due(25, "sums up", x.wins(0, 1, true, 7, 3, 0) + x.wins(0, 1, true, 7, 3, 1) + x.wins(0, 1, true, 7, 3, 2), 4096);
        refuses(26, "innings 4", INDEX, () -> x.declares(0, 4, false, 99, 0));
        refuses(26, "lead", ARGUMENT, () -> x.declares(0, 3, false, 82, 0));
        refuses(26, "out", ARGUMENT, () -> x.declares(0, 3, false, 0, 10));
        refuses(27, "played", INDEX, () -> x.when(7, 10));
        refuses(27, "out", ARGUMENT, () -> x.when(6, 10));
        refuses(28, "played", INDEX, () -> x.enforces(-1, 99));
        refuses(28, "lead", ARGUMENT, () -> x.enforces(6, 82));
        refuses(29, "played", INDEX, () -> x.chased(7));
        refuses(30, "played", INDEX, () -> x.holds(7, true, 99, 0));
        refuses(30, "lead", ARGUMENT, () -> x.holds(6, true, -82, 0));
        refuses(30, "out", ARGUMENT, () -> x.holds(6, true, 0, -1));
        refuses(31, "played", INDEX, () -> x.turnover(7, 0));
        refuses(31, "out", ARGUMENT, () -> x.turnover(6, 10));
        refuses(32, "innings", INDEX, () -> x.line(0, -1, true, 0, 0));
        refuses(32, "lead", ARGUMENT, () -> x.line(0, 3, true, 82, 0));
        refuses(32, "out", ARGUMENT, () -> x.line(6, 3, true, 0, 10));
        due(30, "4 behind, 8 out", x.holds(5, false, -4, 8), true);
        due(30, "3 behind, 8 out", x.holds(5, false, -3, 8), false);
        due(30, "9 out: it does not help", x.holds(5, false, -4, 9), false);
        due(30, "none is left", x.holds(6, false, -4, 8), false);
        due(31, "turnover", x.turnover(5, 8), 3);
        due(31, "9 out", x.turnover(5, 9), 81);
        due(31, "none is left", x.turnover(6, 8), 81);
        due(29, "none is left", x.chased(6), 81);
        TossGround y = told(flat(1, 1, 9));
        due(27, "when", y.when(4, 0), 3);
        due(26, "declares", y.declares(4, 2, false, 3, 0), true);
        due(26, "not with a lead of 2", y.declares(4, 2, false, 2, 0), false);
        due(26, "innings 3", y.declares(4, 3, false, 3, 0), false);
        due(26, "none is left", y.declares(6, 2, false, 3, 0), false);
        due(27, "none is left", y.when(6, 0), -99);
        due(28, "enforces", y.enforces(4, 15), true);
        due(28, "below the margin", y.enforces(4, 14), false);
        due(28, "of no use", y.enforces(3, 15), false);
        due(28, "none is left", y.enforces(6, 81), false);
        due(29, "chased", y.chased(4), 2);
        due(32, "line", y.line(4, 2, false, 3, 0), 100);
        due(32, "it does not by 0", y.line(4, 2, false, 2, 0), -1);
        due(32, "innings 3", y.line(4, 3, false, 3, 0), -1);
        due(32, "none is left", y.line(6, 2, false, 3, 0), -1);
        // an innings that goes on for ever: nobody can be out, so a declaration can only lose
        TossGround z = told(flat(1, 1, 0));
        due(27, "never", z.when(0, 0), -99);
        due(29, "1 each session, 3 left: 2 can be passed, but none can lose", z.chased(3), 81);
        TossGround q = told(flat(1, 0, 9), "slot 1 0 runs 9 outs 9");
        due(31, "level it plays for the win, behind it holds for the draw", q.turnover(5, 1), 0);
        due(29, "two left: 7 ways to win, 9 to lose, if it is behind at all", q.chased(4), 0);
    }

    /** Declaring by drawworth: a sure draw against a chance of both. */
    static void lines() {
        TossGround x = lineGround(40);
        int found = 0;
        for (int lead = -81; lead <= 81; lead++) {
            int line = x.line(2, 2, false, lead, 4);
            if (line == -1) continue;
            found++;
            for (int drawWorth : new int[] {0, line - 1, line}) {
                due(32, "lead " + lead + " by " + drawWorth, lineGround(drawWorth).declares(2, 2, false, lead, 4), drawWorth < line);
            }
        }
        due(32, "there are such leads", found > 0, true);
    }

    /** Innings 2 with two sessions left: the other one is bowled out behind, or passes. */
    static TossGround lineGround(int drawWorth) {
        return told("slot 1 0 runs 9 outs 5;slot 1 1 runs 0 outs 5;slot 1 2 runs 0 outs 5;slot 1 3 runs 1 outs 5", "sessions 4;drawworth " + drawWorth);
    }

    static void p34() {
        TossGround x = told("sessions 3");
        refuses(34, "ahead of the toss, told first", STATE, () -> bytes(x, 9).swing());
        due(34, "the tape is used up", x.feed(0, 0, 0, 0, 0), 20);
        x.toss(0);
        refuses(34, "not that many", ARGUMENT, () -> x.swing());
        due(34, "the tape is used up", x.feed(0, 0, 0, 0, 0), 20);
        x.end(0);
        refuses(34, "slot 4", ARGUMENT, () -> bytes(x, 0, 1, 4).swing());
        refuses(34, "too few", ARGUMENT, () -> bytes(x, 0, 1).swing());
        due(34, "a draw", bytes(x, 0, 1, 3).swing(), 2);
        due(34, "nothing was played", x.match(6), 0);
        TossGround y = told(flat(1, 1, 9), "sessions 9;slot 1 1 runs 9 outs 9");
        y.toss(1);
        due(34, "side 0 passes", bytes(y, 0, 0, 0, 0, 0, 0, 1, 3, 3).swing(), 0);
        due(34, "side 0 is out behind", bytes(y, 1, 0, 0, 0, 1, 0, 0, 0, 0).swing(), 1);
        due(34, "side 0 leads as innings 3 begins", bytes(y, 0, 0, 0, 1, 0, 0, 2, 2, 2).swing(), 0);
        refuses(34, "a slot of one that is over must be one too", ARGUMENT, () -> bytes(y, 0, 0, 0, 0, 0, 0, 1, 3, 9).swing());
        for (int i = 0; i < 7; i++) y.bring(i == 6 ? 1 : 0);
        refuses(34, "over", STATE, () -> bytes(y, 0, 0).swing());
    }

    static void p35to37and42() {
        TossGround x = new TossGround();
        for (int what = 0; what < 6; what++) due(35, "none", x.book(what), 0);
        due(36, "of none", x.share(0, 1), 0);
        due(37, "habit of none", x.habit(false), false);
        due(37, "even of none", x.habit(true), true);
        due(42, "streak of none", x.streak(2), 0);
        refuses(35, "what 6", ELEMENT, () -> x.book(6));
        refuses(35, "what -1", ELEMENT, () -> x.book(-1));
        refuses(36, "what 6", ELEMENT, () -> x.share(6, 0));
        refuses(36, "of 6", ELEMENT, () -> x.share(0, 6));
        refuses(36, "of -1", ELEMENT, () -> x.share(0, -1));
        refuses(42, "what 3", ELEMENT, () -> x.streak(3));
        refuses(42, "what -1", ELEMENT, () -> x.streak(-1));
        tell(x, "book 0 0 0;book 0 1 0;book 1 1 0;book 1 0 2;book 1 1 2;book 0 0 0;book 1 1 1");
        int[] want = {7, 5, 3, 3, 4, 2};
        for (int what = 0; what < 6; what++) due(35, "book " + what, x.book(what), want[what]);
        due(36, "share", x.share(1, 0), 7142);
        due(36, "share of more", x.share(0, 5), 35000);
        due(42, "batted first", x.streak(0), 2);
        due(42, "won the toss", x.streak(1), 2);
        due(42, "draws", x.streak(2), 2);
        due(37, "habit", x.habit(false), false);
        due(37, "even: 3 won, 2 lost", x.habit(true), false);
        tell(x, "book 0 0 1");
        due(37, "even: 3 won, 3 lost", x.habit(true), true);
        TossGround y = told(times("book 1 1 2", 9, ";"), "book 0 1 2");
        due(37, "nine of ten", y.habit(false), true);
        tell(y, "book 0 1 2");
        due(37, "nine of eleven", y.habit(false), false);
    }

    static void p38to39() {
        TossGround x = new TossGround();
        int[] m = {0, 1, 2, 1, 0, 2, 2, 0, 1, 1, 3, 1, 1, 1, 0, 1, 0, 2, 3, 1};
        int[][] count = {{3, 2, 0, 0}, {0, 3, 2, 0}, {1, 0, 2, 2}};
        int[][] swung = {{2, 2, 0, 0}, {0, 3, 1, 0}, {1, 0, 1, 2}};
        for (int sign = 0; sign < 3; sign++) {
            for (int value = 0; value < 4; value++) {
                due(38, "signs", bytes(x, m).signs(sign, value, false), count[sign][value]);
                due(38, "swung", bytes(x, m).signs(sign, value, true), swung[sign][value]);
            }
        }
        due(38, "none told", x.signs(0, 0, false), 0);
        refuses(38, "sign 3", ARGUMENT, () -> bytes(x, m).signs(3, 0, false));
        due(38, "the tape is used up", x.feed(0, 0, 0, 0, 0), 20);
        x.end(0);
        refuses(38, "sign -1", ARGUMENT, () -> x.signs(-1, 0, false));
        refuses(38, "value 4", ARGUMENT, () -> x.signs(0, 4, false));
        refuses(38, "value -1", ARGUMENT, () -> x.signs(0, -1, false));
        refuses(38, "three bytes", ARGUMENT, () -> bytes(x, 0, 0, 0).signs(0, 0, false));
        refuses(38, "a sign of 4", ARGUMENT, () -> bytes(x, 0, 4, 0, 0).signs(0, 0, false));
        refuses(38, "swung 2", ARGUMENT, () -> bytes(x, 0, 3, 0, 2).signs(0, 0, false));
        refuses(39, "five bytes", ARGUMENT, () -> bytes(x, 0, 0, 0, 1, 0).best(true, true));
        refuses(39, "swung 255", ARGUMENT, () -> bytes(x, 0, 3, 0, 255).best(false, true));
        due(39, "the tape is used up", x.feed(0, 0, 0, 0, 0), 20);
        x.end(0);
        due(39, "best of several", bytes(x, m).best(false, false), 0);
        due(39, "how many", bytes(x, m).best(false, true), 4);
        due(39, "rule", bytes(x, m).best(true, false), 2);
        due(39, "how many by it", bytes(x, m).best(true, true), 5);
        int[] n = {0, 1, 0, 1, 0, 2, 1, 0, 1, 1, 1, 0, 1, 2, 0, 1};
        due(39, "no sign alone", bytes(x, n).best(false, true), 4);
        due(39, "which", bytes(x, n).best(false, false), 2);
        int[] k = {0, 1, 3, 1, 0, 2, 3, 0, 1, 1, 3, 0, 1, 2, 3, 1};
        due(39, "each by half", bytes(x, k).best(false, true), 2);
        due(39, "two signs", bytes(x, k).best(true, true), 4);
        due(39, "which two", bytes(x, k).best(true, false), 0);
        int[] j = {3, 0, 1, 1, 3, 0, 2, 0, 3, 1, 1, 0, 3, 1, 2, 1};
        due(39, "which two", bytes(x, j).best(true, false), 2);
        due(39, "none told", x.best(false, false), 0);
        due(39, "none told", x.best(true, true), 0);
    }

    static void p43to46() {
        TossGround x = told("sessions 8;slot 2 0 runs 9 outs 1;slot 2 3 runs 0 outs 9;rain 1;cloud 5 6");
        lawOf(x, "hard 1;hard 1 if cloud and side > 0");
        due(43, "table", x.table(0, 0, 0, false), 12);
        due(43, "table of level 2", x.table(5, 0, 1, false), 15);
        due(43, "outs of level 2", x.table(5, 3, 1, true), 14);
        due(43, "rain", x.table(1, 0, 0, false), 0);
        due(43, "outs by rain", x.table(1, 0, 0, true), 0);
        refuses(43, "session 8", INDEX, () -> x.table(8, 0, 0, false));
        refuses(43, "innings 4", INDEX, () -> x.table(0, 4, 0, false));
        refuses(43, "side -1", INDEX, () -> x.table(0, 0, -1, false));
        due(45, "hardest", x.hardest(0, 1), 5);
        due(45, "the first of all", x.hardest(0, 0), 0);
        refuses(45, "innings 4", INDEX, () -> x.hardest(4, 0));
        refuses(45, "innings -1", INDEX, () -> x.hardest(-1, 0));
        refuses(45, "side 2", INDEX, () -> x.hardest(0, 2));
        lawOf(x, "hard 1 if session > 7");
        due(45, "only of sessions that are", x.hardest(3, 1), 0);
        lawOf(x, "hard 1;hard 1 if cloud and side > 0");
        x.toss(0);
        refuses(44, "side 2", INDEX, () -> x.form(2, 5));
        refuses(44, "day 3", ARGUMENT, () -> x.form(0, 3));
        refuses(44, "day -1", ARGUMENT, () -> x.form(0, -1));
        x.bring(0);
        x.bring(3);
        x.bring(1);
        x.declare();
        x.bring(2);
        x.bring(0);
        x.bring(0);
        x.bring(3);
        due(44, "day 0", x.form(0, 0), 6);
        due(44, "day 0 of the other one", x.form(1, 0), 0);
        due(44, "day 1", x.form(1, 1), 15);
        due(44, "day 2", x.form(1, 2), 0);
        log(x, 0, 0, 0, 1, 0, 3, 2, 3);
        log(x, 1, 0, 0, 1, 3, 3, 2, 0);
        log(x, 2, 0, 0, 1, 1, 6, 4, 3);
        log(x, 3, 1, 1, 1, 2, -3, 2, 3);
        log(x, 5, 1, 1, 2, 0, 9, 5, 9);
        log(x, 6, 1, 1, 2, 3, 9, 10, 0);
        due(46, "without", x.log(7, 6), -99);
        due(46, "without", x.log(-1, 0), -99);
        due(46, "without", x.log(Integer.MAX_VALUE, 0), -99);
        refuses(46, "what 7", ELEMENT, () -> x.log(0, 7));
        refuses(46, "what -1, without", ELEMENT, () -> x.log(-1, -1));
    }

    static void log(TossGround x, int session, int... want) {
        for (int what = 0; what < want.length; what++) due(46, "log " + session + " " + what, x.log(session, what), want[what]);
    }

    static void p48() {
        TossGround x = told(flat(1, 2, 9), "sessions 9;margin 0");
        due(48, "nothing to undo", x.undo(), false);
        x.anew();
        x.toss(0);
        x.bring(0);
        x.declare();
        x.bring(0);
        x.declare();
        x.follow();
        due(51, "acts", x.count(10), 7);
        due(48, "follow", x.undo(), true);
        match(x, 0, 2, 0, 2, 2, 0, 2, 0, -1, 1, 1);
        x.undo();
        x.undo();
        due(48, "a session", x.log(1, 0), -99);
        match(x, 0, 1, 0, 2, 0, 1, 1, 0, -1, 0, 1);
        x.undo();
        match(x, 0, 0, 9, 2, 0, 0, 1, 0, -1, 0, 0);
        x.undo();
        x.undo();
        match(x, -1, 0, 0, 0, 0, -1, 0, 0, -1, 0, 0);
        due(48, "anew that changed nothing", x.undo(), true);
        due(48, "no more", x.undo(), false);
        for (int i = 0; i < 20; i++) x.anew();
        due(48, "12 are remembered", x.count(10), 12);
        x.toss(1);
        x.bring(0);
        x.anew();
        due(48, "12", x.count(10), 12);
        x.undo();
        due(48, "the log is there again", x.log(0, 6), 2);
        for (int i = 0; i < 11; i++) due(48, "undo", x.undo(), true);
        due(48, "the 13th", x.undo(), false);
        x.toss(0);
        groundFault(x, "grass");
        lawFault(x, "grass");
        due(48, "a wrong text leaves them", x.count(10), 1);
        tell(x, "margin 3");
        due(48, "a text: none", x.count(10), 0);
        x.bring(0);
        lawOf(x, "hard 1");
        due(48, "a law: none", x.undo(), false);
        x.bring(0);
        x.back();
        due(48, "no image: they stay", x.count(10), 1);
        x.image();
        due(48, "an image leaves them", x.count(10), 1);
        x.back();
        due(48, "going back: none", x.undo(), false);
        x.seed(4);
        x.play();
        x.undo();
        due(48, "the seed too", x.seed(1), 4);
    }

    static void p49to50() {
        TossGround x = told("margin 3;book 0 0 0;cloud 1;sessions 4");
        due(50, "none was kept", x.back(), false);
        lawOf(x, "hard 1;hard 1 if cloud");
        x.toss(1);
        x.bring(2);
        x.seed(99);
        tape(x, "drawworth 5;book");
        x.image();
        tell(x, "drawworth 6");
        lawOf(x, "hard 3");
        tell(x, flat(1, 0, 0), "book 1 1 1;rain 1;side 0 bat 0 bowl 0");
        x.bring(0);
        x.anew();
        tell(x, "sessions 9");
        x.seed(1);
        tape(x, "margin 77");
        due(50, "back", x.back(), true);
        due(50, "S", x.count(0), 4);
        due(50, "margin", x.count(1), 3);
        due(50, "drawworth", x.count(2), 40);
        due(50, "texts", x.count(3), 1);
        due(50, "lines", x.count(4), 2);
        due(50, "books", x.count(5), 1);
        due(50, "cloud", x.count(6), 2);
        due(50, "rain", x.count(8), 0);
        due(50, "level", x.level(1, 0, 0), 2);
        due(50, "runs", x.slot(1, 3, false), 3);
        due(50, "bat", x.side(0, false), 5);
        match(x, 1, 0, 2, 0, 3, 1, 1, 0, -1, 0, 0);
        due(50, "log", x.log(0, 3), 2);
        due(50, "the tape stays", x.ground(), 2);
        due(50, "margin by it", x.count(1), 77);
        due(50, "seed", x.seed(0), 99);
        due(50, "again", x.back(), true);
        due(50, "margin", x.count(1), 3);
        due(50, "seed again", x.seed(0), 99);
        x.image();
        x.back();
        due(49, "the latest image", x.seed(0), 0);
    }

    static void p51() {
        TossGround x = told("sessions 5;margin 7;drawworth 8;book 0 0 0;book 0 0 1;cloud 0 1;tide 1;rain 8");
        lawOf(x, "hard 1;hard 1;hard 1");
        x.toss(0);
        x.bring(0);
        x.bring(0);
        int[] want = {5, 7, 8, 1, 3, 2, 3, 2, 256, 3, 3};
        for (int i = 0; i < want.length; i++) due(51, "count " + i, x.count(i), want[i]);
        due(51, "another", x.count(11), -1);
        due(51, "another", x.count(-1), -1);
        due(51, "another", x.count(Integer.MIN_VALUE), -1);
    }

    /** What holds of every ground, on long matches that no model counts one by one. */
    static void longMatches() {
        for (int first = 0; first < 2; first++) longMatch(first);
    }

    static void longMatch(int first) {
        TossGround x = told("sessions 9;margin 5", "slot 0 0 runs 9 outs 1;slot 0 1 runs 5 outs 4;slot 0 2 runs 2 outs 7;slot 0 3 runs 7 outs 9",
            "slot 1 0 runs 8 outs 3;slot 1 1 runs 1 outs 6;slot 1 2 runs 4 outs 5;slot 1 3 runs 0 outs 9", flat(2, 1, 8), flat(3, 6, 6));
        lawOf(x, "hard 1 if session > 3;hard 1 if innings > 1;hard 1 if side < 1 and day > 1");
        x.toss(first);
        due(20, "worth of the toss", x.worth(first, 0), 100 * x.here(first) + 40 * x.here(2));
        due(20, "worth to the other one", x.worth(1 - first, 1), 100 * x.here(1 - first) + 40 * x.here(2));
        for (int i = 0; i < 9 && x.match(8) == -1; i++) {
            due(19, "all ways", x.here(0) + x.here(1) + x.here(2), x.here(3));
            due(40, "all ways", x.blind(0) + x.blind(1) + x.blind(2), x.blind(3));
            best(x);
            x.bring(i % 3);
        }
    }

    /** Here is what the best choice brings, and the cost of each is what it is worth less. */
    static void best(TossGround x) {
        int chooser = x.match(9) == 1 ? x.match(0) : x.match(5);
        long here = 100 * x.here(chooser) + 40 * x.here(2);
        long going = 0;
        for (int slot = 0; slot < 4; slot++) going += 100 * x.after(slot, chooser) + 40 * x.after(slot, 2);
        due(33, "go on", x.cost(0), here - going);
        if (x.match(10) == 0 && x.match(1) < 3) {
            long cost = x.cost(1);
            x.declare();
            due(33, "declare", cost, here - 100 * x.here(chooser) - 40 * x.here(2));
            x.undo();
        } else if (x.match(9) == 1) {
            long cost = x.cost(2);
            x.follow();
            due(33, "follow on", cost, here - 100 * x.here(chooser) - 40 * x.here(2));
            x.undo();
        } else if (x.match(1) == 3) {
            long cost = x.cost(3);
            long held = 0;
            for (int slot = 0; slot < 4; slot++) {
                x.hold(slot);
                held += 100 * x.here(chooser) + 40 * x.here(2);
                x.undo();
            }
            due(33, "hold", cost, here - held);
        }
    }

    public static void main(String[] args) {
        p1();
        p2to3();
        p4();
        groundFaults();
        p5();
        lawFaults();
        p7to10();
        p11to18();
        ends();
        p13and47();
        p19to24();
        overHere();
        p20to22();
        p25to32();
        lines();
        p34();
        p35to37and42();
        p38to39();
        p43to46();
        p48();
        p49to50();
        p51();
        longMatches();
        System.out.println(wrong == 0 ? "all " + asked + " answers are as due" : wrong + " of " + asked + " answers are not as due");
        if (wrong != 0) System.exit(1);
    }
}
