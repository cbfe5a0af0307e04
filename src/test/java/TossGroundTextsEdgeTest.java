/** The document's boundaries by its sentences: what is told, the tape, the two texts (promises 1 to 10). */
public final class TossGroundTextsEdgeTest extends TossGroundSentences {

    // ---- terms

    static void numbersOfTheGround() {
        says("A MATCH has S SESSIONS (1 to 9; 6 at first), numbered from 0 on", () -> {
            due("at first", new TossGround().count(0), 6);
            due("the fewest", told("sessions 1").count(0), 1);
            due("the most", told("sessions 9").count(0), 9);
            wrongGrounds("sessions ^0", "sessions ^10", "sessions ^999");
            within("of 6, session", INDEX, 0, 5, n -> new TossGround().session(n, 0));
            within("of 1, session", INDEX, 0, 0, n -> told("sessions 1").session(n, 0));
            within("of 9, session", INDEX, 0, 8, n -> told("sessions 9").session(n, 0));
        });
        says("DAY of a SESSION: by 3, rounded down", () -> {
            int[] days = {0, 0, 0, 1, 1, 1, 2, 2, 2};
            for (int i = 0; i < 9; i++) due("day of session " + i, told("sessions 9").session(i, 0), days[i]);
        });
        says("SIDES 0 and 1: BAT and BOWL 0 to 9 each (5 at first)", () -> {
            TossGround x = new TossGround();
            for (int i = 0; i < 4; i++) due("at first", x.side(i / 2, i % 2 == 1), 5);
            tell(x, "side 0 bat 0 bowl 9;side 1 bat 9 bowl 0");
            for (int i = 0; i < 4; i++) due("the bounds", x.side(i / 2, i % 2 == 1), i == 1 || i == 2 ? 9 : 0);
            wrongGrounds("side ^2 bat 1 bowl 1", "side 0 bat ^10 bowl 1", "side 0 bat 1 bowl ^10", "side 1 bat ^999 bowl 1");
        });
        says("LEVELS of a pitch: 0 easy to 3 hard; each has four SLOTS", () -> {
            TossGround x = told("slot 0 0 runs 1 outs 1;slot 0 3 runs 2 outs 2;slot 3 0 runs 4 outs 4;slot 3 3 runs 5 outs 5");
            due("the first slot of the first level", x.slot(0, 0, false), 1);
            due("the last slot of the first level", x.slot(0, 3, true), 2);
            due("the first slot of the last level", x.slot(3, 0, false), 4);
            due("the last slot of the last level", x.slot(3, 3, true), 5);
            due("beside it", x.slot(2, 3, false), 3);
            due("ahead of it", x.slot(3, 2, false), 3);
            wrongGrounds("slot ^4 0 runs 1 outs 1", "slot 0 ^4 runs 1 outs 1");
        });
        says("RUNS 0 to 9 and OUTS 0 to 9 (at first 3 RUNS, 2 OUTS in all)", () -> {
            TossGround x = new TossGround();
            for (int i = 0; i < 16; i++) due("at first", 10 * x.slot(i / 4, i % 4, false) + x.slot(i / 4, i % 4, true), 32);
            tell(x, "slot 1 2 runs 0 outs 9;slot 2 1 runs 9 outs 0");
            due("runs 0", x.slot(1, 2, false), 0);
            due("outs 9", x.slot(1, 2, true), 9);
            due("runs 9", x.slot(2, 1, false), 9);
            due("outs 0", x.slot(2, 1, true), 0);
            wrongGrounds("slot 0 0 runs ^10 outs 1", "slot 0 0 runs 1 outs ^10");
        });
        says("CLOUD, TIDE, RAIN: SESSIONS, as bits (none at first)", () -> {
            TossGround x = new TossGround();
            for (int what = 6; what < 9; what++) due("at first", x.count(what), 0);
            tell(x, "cloud 0;tide 8;rain 0 1 2 3 4 5 6 7 8");
            due("the first one", x.count(6), 1);
            due("the last one", x.count(7), 256);
            due("all", x.count(8), 511);
        });
        says("MARGIN 0 to 99: from which lead on one may make the other side follow on (15 at first)", () -> {
            due("at first", new TossGround().count(1), 15);
            due("the least", told("margin 0").count(1), 0);
            due("the most", told("margin 99").count(1), 99);
            wrongGrounds("margin ^100");
            String slots = "slot 1 0 runs 9 outs 9;slot 1 1 runs 6 outs 1;slot 1 2 runs 5 outs 1;slot 1 3 runs 0 outs 9";
            TossGround x = told(slots);
            x.toss(0);
            due("with a lead of 15", bring(x, 0, 1, 3, 3).match(9), 1);
            x.anew();
            x.toss(0);
            due("with a lead of 14", bring(x, 0, 2, 3, 3).match(9), 0);
        });
        says("DRAWWORTH 0 to 100: how much a draw is worth, a win being 100, a loss 0 (40 at first)", () -> {
            due("at first", new TossGround().count(2), 40);
            due("the least", told("drawworth 0").count(2), 0);
            due("the most", told("drawworth 100").count(2), 100);
            wrongGrounds("drawworth ^101");
            due("four draws at first", told("sessions 1").worth(0, 0), 160);
            due("four draws of no worth", told("sessions 1;drawworth 0").worth(0, 0), 0);
            due("four draws as good as wins", told("sessions 1;drawworth 100").worth(0, 0), 400);
        });
    }

    // ---- texts of the ground

    static void groundTexts() {
        says("THE GROUND is told in texts (at most 12, one behind another)", () -> {
            TossGround x = new TossGround();
            for (int i = 1; i <= 12; i++) due("text", tape(x, "margin " + i).ground(), i);
            refuses("a 13th", UNSUPPORTED, () -> tape(x, "margin 13").ground());
            refuses("a 13th that is empty", UNSUPPORTED, () -> tape(x, "").ground());
            due("12 stay", x.count(3), 12);
            due("the 12th one stays", x.count(1), 12);
            TossGround y = told("margin 3;drawworth 4;side 0 bat 1 bowl 2", "margin 5");
            due("what the next one tells anew", y.count(1), 5);
            due("what it does not tell", y.count(2), 4);
            due("what it does not tell", y.side(0, false), 1);
        });
        says("LINE { ; LINE }, at most 14", () -> {
            rightGrounds("rain 1", times("rain 1", 14, ";"));
            wrongGrounds(times("rain 1", 14, ";") + ";^rain 1", times("rain 1", 14, " ; ") + " ; ^margin 5 ; margin 6");
        });
        says("(S of side: 0, 1; L: 0 to 3; K of slot: 0 to 3; K of cloud, tide, rain: SESSIONS 0 to 8, more of these.)", () -> {
            rightGrounds("side 0 bat 1 bowl 1;side 1 bat 1 bowl 1", "slot 0 0 runs 1 outs 1;slot 3 3 runs 1 outs 1", "cloud 0;tide 0;rain 0", "cloud 8;tide 8;rain 8",
                "sessions 1;cloud 8", "cloud 0 1 2 3 4 5 6 7 8 8 8 8");
            wrongGrounds("side ^2 bat 1 bowl 1", "slot ^4 0 runs 1 outs 1", "slot 0 ^4 runs 1 outs 1", "cloud ^9", "tide ^9", "rain ^9", "cloud 0 ^9", "tide 0 1 ^9 2", "rain 8 8 ^10");
            TossGround x = told("cloud 0;tide 1;rain 2", "cloud 8 3;tide 0;rain 2");
            due("more cloud", x.count(6), 1 + 8 + 256);
            due("more tide", x.count(7), 3);
            due("rain that was", x.count(8), 4);
        });
        says("cloud K { K } | tide K { K } | rain K { K }", () -> {
            rightGrounds("cloud 1", "tide 1", "rain 1", "cloud 1 2", "tide 1 2 3", "rain 8 7 6 5 4 3 2 1 0", "cloud 1 1");
            wrongGrounds("cloud^", "tide^", "rain^", "cloud ^;cloud 1", "tide ^rain 1", "rain ^x", "cloud 1 ^x", "cloud 1 ^tide 1", "rain 1 2 ^book 0 0 0");
        });
        says("sessions S | side S bat N bowl N | slot L K runs N outs N", () -> {
            rightGrounds("sessions 1", "side 0 bat 0 bowl 0", "slot 0 0 runs 0 outs 0");
            wrongGrounds("sessions^", "sessions 1 ^1", "side 0 ^1 bowl 1", "side 0 bat 1 ^1", "side 0 bat 1 bowl 1 ^1", "side ^bat 1 bowl 1", "side 0 bat ^bowl 1", "slot 0 ^runs 1 outs 1", "slot ^runs 1 outs 1",
                "slot 0 0 ^1 outs 1", "slot 0 0 runs 1 ^1", "slot 0 0 runs ^outs 1", "slot 0 0 ^0 runs 1 outs 1", "slot 0 0 runs 1 outs 1 ^outs 1");
        });
        says("margin N | drawworth N | book T B W", () -> {
            rightGrounds("margin 0", "drawworth 0", "book 0 0 0");
            wrongGrounds("margin^", "margin 1 ^1", "drawworth^", "drawworth 1 ^1", "book^", "book 0 0^", "book 0 0 ^;book 0 0 0", "book 0 0 0 ^0", "book 0 ^won 0");
        });
        says("sessions: only ahead of the TOSS (else that word is wrong)", () -> {
            TossGround x = told("sessions 2");
            x.toss(0);
            wrongGround(x, "^sessions 3");
            wrongGround(x, "margin 7; ^sessions 99");
            x.bring(0);
            x.bring(0);
            due("over", x.match(8), 2);
            wrongGround(x, "^sessions 3");
            due("S", x.count(0), 2);
            x.anew();
            due("ahead of the next toss", groundFault(x, "sessions 3"), -1);
            due("S", x.count(0), 3);
            x.toss(1);
            x.undo();
            due("the toss is undone", groundFault(x, "sessions 4"), -1);
        });
        says("book: an old match (at most 60)", () -> {
            TossGround x = books(56);
            due("56 and 4", groundFault(x, times("book 0 0 0", 4, ";")), -1);
            due("60", x.count(5), 60);
            wrongGround(x, "^book 0 0 0");
            wrongGround(x, "margin 1;^book 0 0 0");
            due("60 stay", x.count(5), 60);
        });
        says("T: which SIDE won the toss, B: which batted first, W: which won (0, 1; 2: a draw)", () -> {
            rightGrounds("book 0 0 0", "book 1 1 2", "book 0 1 1");
            wrongGrounds("book ^2 0 0", "book 0 ^2 0", "book 0 0 ^3");
            TossGround x = told("book 0 1 2");
            due("who won the toss fielded", x.book(1), 0);
            due("a draw", x.book(5), 1);
        });
    }

    static TossGround books(int n) {
        TossGround x = new TossGround();
        for (int i = 0; i < n / 14; i++) tell(x, times("book 0 0 0", 14, ";"));
        return x;
    }

    // ---- the law

    static void lawTexts() {
        says("THE LAW (a text, in place of the one before): LINE { ; LINE }, at most 12", () -> {
            rightLaws("hard 1", times("hard 1", 12, ";"));
            wrongLaws(times("hard 1", 12, ";") + ";^hard 1", times("hard 0", 12, ";") + " ; ^hard 0;hard 0");
            TossGround x = lawOf(lawOf(new TossGround(), "hard 1;hard 2 if session > 0"), "hard 1");
            due("lines", x.count(4), 1);
            due("of the one before nothing", x.level(1, 0, 0), 1);
            due("an empty one, in place of it", lawOf(x, "").level(1, 0, 0), 0);
        });
        says("All numbers are of 1 to 3 digits (N of hard 0 to 9)", () -> {
            rightLaws("hard 0", "hard 9", "hard 009", "hard 1 if 0 < 999", "hard 1 if 000 < 001");
            rightGrounds("margin 099", "cloud 008 000", "sessions 009", "side 001 bat 000 bowl 009");
            wrongLaws("hard ^10", "hard ^0009", "hard ^0000", "hard 1 if ^1000 > 1", "hard 1 if 1 > ^0000", "hard 1 if 1 + ^0001 > 1");
            wrongGrounds("margin ^0005", "cloud 1 ^0001", "sessions ^0001", "slot 0 0 runs ^0000 outs 0");
        });
        says("LEVEL of a SESSION, an INNINGS (0 to 3) and the SIDE that bats: the sum of N of all hard LINES that hold, 3 at most (1 without a text)", () -> {
            due("without a text", new TossGround().level(0, 0, 0), 1);
            due("no line holds", level("hard 9 if 1 < 0"), 0);
            due("a sum of 0", level("hard 0;hard 0"), 0);
            due("a sum of 2", level("hard 1;hard 0;hard 1;hard 9 if 1 > 1"), 2);
            due("a sum of 3", level("hard 2;hard 1"), 3);
            due("a sum of 4", level("hard 3;hard 1"), 3);
            due("a sum of 108", level(times("hard 9", 12, ";")), 3);
            TossGround x = lawOf(new TossGround(), "hard 1 if innings > 2");
            due("the last innings", x.level(0, 3, 0), 1);
            due("the one ahead of it", x.level(0, 2, 0), 0);
        });
        says("SUM < SUM | SUM > SUM", () -> {
            due("less", level("hard 1 if 3 < 4"), 1);
            due("as many are not less", level("hard 1 if 4 < 4"), 0);
            due("more", level("hard 1 if 4 > 3"), 1);
            due("as many are not more", level("hard 1 if 4 > 4"), 0);
            due("the greatest numbers together", level("hard 1 if 999 + 999 > 999 + 998"), 1);
        });
        says("C: ALL { or ALL }; ALL: ATOM { and ATOM }; ATOM: not ATOM | ( C ) | cloud | tide", () -> {
            String[] laws = {"0 < 1 or 1 < 0", "1 < 0 or 0 < 1", "1 < 0 or 1 < 0", "1 < 0 or 1 < 0 or 0 < 1", "0 < 1 and 1 < 0", "1 < 0 and 0 < 1", "0 < 1 and 0 < 1", "0 < 1 and 0 < 1 and 1 < 0",
                "0 < 1 or 0 < 1 and 1 < 0", "1 < 0 and 1 < 0 or 0 < 1", "(0 < 1 or 0 < 1) and 1 < 0", "not 0 < 1", "not 1 < 0", "not not 0 < 1", "not 1 < 0 and 1 < 0", "not (1 < 0 and 1 < 0)", "not 0 < 1 or 0 < 1", "not (0 < 1 or 0 < 1)",
                "cloud", "tide", "not cloud"};
            int[] want = {1, 1, 0, 1, 0, 0, 1, 0, 1, 1, 0, 0, 1, 1, 0, 1, 1, 0, 0, 0, 1};
            for (int i = 0; i < laws.length; i++) due(laws[i], level("hard 1 if " + laws[i]), want[i]);
        });
        says("SUM: PART { + PART }; PART: NUMBER | session | day | innings | side | bat | bowl", () -> {
            TossGround x = told("sessions 9;side 0 bat 1 bowl 2;side 1 bat 3 bowl 4");
            String[] parts = {"session", "day", "innings", "side", "bat", "bowl", "999", "0", "session + 1", "1 + 2 + 3", "bat + bowl", "session + day + innings + side + bat + bowl + 7"};
            int[] first = {0, 0, 0, 0, 1, 4, 999, 0, 1, 6, 5, 12};
            int[] last = {8, 2, 3, 1, 3, 2, 999, 0, 9, 6, 5, 26};
            for (int i = 0; i < parts.length; i++) {
                lawOf(x, "hard 1 if " + parts[i] + " < " + first[i] + " + 1;hard 2 if " + parts[i] + " + 1 > " + first[i]);
                due(parts[i] + " of the first session, innings 0, side 0", x.level(0, 0, 0), 3);
                lawOf(x, "hard 1 if " + last[i] + " + 1 > " + parts[i] + ";hard 2 if " + last[i] + " < 1 + " + parts[i]);
                due(parts[i] + " of the last session, innings 3, side 1", x.level(8, 3, 1), 3);
            }
            int[] days = {0, 0, 0, 1, 1, 1, 2, 2, 2};
            lawOf(x, "hard 1 if day > 0;hard 1 if day > 1");
            for (int session = 0; session < 9; session++) due("day of session " + session, x.level(session, 0, 0), days[session]);
        });
        says("side: who bats; bat: BAT of that one, bowl: BOWL of the other one; cloud, tide: of that SESSION", () -> {
            TossGround x = told("sessions 9;side 0 bat 0 bowl 9;side 1 bat 8 bowl 1;cloud 0;tide 8");
            lawOf(x, "hard 1 if bat > 7;hard 2 if bowl > 8");
            due("side 0: bat 0, and 1 bowled by side 1", x.level(0, 0, 0), 0);
            due("side 1: bat 8, and 9 bowled by side 0", x.level(0, 0, 1), 3);
            lawOf(x, "hard 1 if cloud;hard 2 if tide;hard 1 if side > 0");
            due("cloud of the first session", x.level(0, 0, 0), 1);
            due("none beside it", x.level(1, 0, 0), 0);
            due("tide of the last session", x.level(8, 0, 0), 2);
            due("none beside it", x.level(7, 0, 0), 0);
            due("side 1", x.level(7, 0, 1), 1);
        });
    }

    /** By a law, of the first session. */
    static int level(String law) {
        return lawOf(new TossGround(), law).level(0, 0, 0);
    }

    // ---- what both texts are made of

    static void wordsAndBlanks() {
        says("Words are as long as a to z go on", () -> {
            rightGrounds("margin5", "side0bat1bowl2", "slot1 2runs3outs4", "cloud0 1;tide2");
            rightLaws("hard1if session<day+1or cloud and(tide)", "hard 1if not(tide)", "hard 1 if bat+1<bowl");
            wrongGrounds("^margins 5", "^amargin 5", "side 0^batbowl 1", "^sidebat 0", "^mar gin 5", "margin^", "^azmargin 5", "^zmargin 5", "^marginz 5", "^margina 5");
            wrongLaws("hard 1 ^ifcloud", "hard 1 if ^nottide", "hard 1 if cloud ^andtide", "hard 1 if ^sessions < 1", "^ha rd 1", "hard 1 if ^cl oud");
            wrongGrounds("^Margin 5", "margin 5 ^Z", "^`margin 5", "^{margin 5", "margin^`5", "margin^{5");
        });
        says("between all there may be blanks (32), also ahead and behind", () -> {
            rightGrounds("  margin   5  ", "margin 5 ;  cloud  1   2 ; rain 3 ", times(" ", 392, "") + "margin 5");
            rightLaws("   hard  1  if  (  not  cloud  )  or  1  +  2  <  3  ;  hard  2  ");
            wrongGrounds("margin^\t5", "^\nmargin 5", "margin 5^\r", "margin^" + (char) 160 + "5", "margin^" + (char) 0 + "5", "margin^" + (char) 31 + "5", "margin^!5", "^" + (char) 255);
            due("a blank within a number makes two", told("cloud 1 2").count(6), 6);
            wrongGrounds("margin 1 ^2");
        });
        says("A text that is empty, or blanks alone, has no LINE", () -> {
            TossGround x = new TossGround();
            due("an empty one is a text", tape(x, "").ground(), 1);
            due("blanks are a text", tape(x, "   ").ground(), 2);
            due("a tape full of blanks is a text", tape(x, times(" ", 400, "")).ground(), 3);
            due("nothing is told by them", x.count(1) + x.count(6), 15);
            due("an empty law", tape(x, "").law(), 0);
            due("its lines", x.count(4), 0);
            due("a law of blanks", tape(x, "  ").law(), 0);
            due("a law of 400 blanks", tape(x, times(" ", 400, "")).law(), 0);
            due("right ones", x.fault(), -1);
            wrongGrounds("^;", "  ^;", "margin 1;^;margin 2", "margin 1;^", "margin 1;  ^");
            wrongLaws("^;", "hard 1;^", "hard 1; ^;hard 1");
        });
        says("( and not within one another at most 6 deep", () -> {
            rightLaws("hard 1 if ((((((cloud))))))", "hard 1 if not not not not not not cloud", "hard 1 if not(not(not(cloud)))", "hard 1 if (not(not(not 1 < 2)))",
                "hard 1 if ((((((cloud)))))) and ((((((tide)))))) or not not not not not not tide", "hard 1 if (((((cloud and not tide or (tide))))))");
            due("6 deep", level("hard 1 if not not not not not not 0 < 1"), 1);
            due("5 deep", level("hard 1 if not not not not not 0 < 1"), 0);
        });
    }

    static void wrongBytes() {
        says("the begin of the first thing that cannot stand there", () -> {
            wrongGrounds("margin ^cloud", "^5 margin", "margin 5 ;^; cloud 9", "margin 5^,cloud 9", "cloud 1 ^rain 9", "cloud ^;margin 100", "side 0 ^bowl 1 bat 1", "slot 1 1 ^outs 1 runs 1",
                "slot 1 ^runs 1 outs 1", "side 0 ^1 bowl 1", "side 0 bat 1 ^1", "slot 0 0 ^1 outs 1", "slot 0 0 runs 1 ^1", "margin ^-1", "margin ^(5)", "book 1 1 1 ^1");
            wrongLaws("^1", "^1 if cloud", "hard 1 ^2", "hard 1 if 1 ^2", "hard 1 if bat ^bowl", "hard ^if cloud", "hard 1 if ^)", "hard 1 if (^)", "hard 1 if cloud^)", "hard 1 if (cloud^;hard 1", "hard 1 if cloud ^tide", "hard 1 if 1 < 2 ^< 3", "hard 1 if 1 + ^< 2",
                "hard 1 if 1 ^= 2", "hard 1 if (1^) < 2", "hard 1 if cloud ^+ 1 < 2", "hard 1 if 1 < ^cloud", "hard 1 if ^+ 1 < 2", "hard 1 if 1 ^and cloud", "hard 1 if cloud and ^or tide", "hard ^-1", "hard 1^,");
        });
        says("if it would have more than 400", () -> {
            wrongGrounds("^" + times(";", 400, ""), "margin^" + times("(", 394, ""), times(" ", 399, "") + "^" + (char) 255);
            wrongLaws("^" + times("<", 400, ""), "hard 1 ^" + times("1 ", 196, ""), "hard 1 if ^" + times("+", 390, ""));
            rightGrounds(times(" ", 400, ""), "cloud" + times(" 8", 197, "") + " ");
            rightLaws("hard 1 if 0" + times("+1", 193, "") + "<1");
        });
        says("a number of more digits", () -> {
            wrongGrounds("margin ^0001", "margin 1;margin ^00000000000000000001", "cloud 1 ^0001 9", "drawworth ^1000");
            wrongLaws("hard ^0001", "hard 1 if ^0000 < 1", "hard 1 if 1 < ^4294967297");
        });
        says("or out of its bounds", () -> {
            wrongGrounds("sessions ^0", "sessions ^10", "side ^2 bat 0 bowl 0", "side 0 bat ^10 bowl 0", "side 0 bat 0 bowl ^10", "slot ^4 0 runs 0 outs 0", "slot 0 ^4 runs 0 outs 0",
                "slot 0 0 runs ^10 outs 0", "slot 0 0 runs 0 outs ^10", "cloud ^9", "tide ^9", "rain ^9", "margin ^100", "drawworth ^101", "book ^2 0 0", "book 0 ^2 0", "book 0 0 ^3");
            wrongLaws("hard ^10", "hard 1;hard ^999");
        });
        says("a word that is none", () -> {
            wrongGrounds("^grass 1", "margin 1;^grass", "side 0 ^bats 1 bowl 1", "slot 0 0 ^run 1 outs 1", "^a", "margin 1; ^x y z");
            wrongLaws("^grass 1", "hard 1 ^when cloud", "hard 1 if ^grass", "hard 1 if cloud ^xor tide", "hard 1 if 1 < ^x");
        });
        says("or not now", () -> {
            wrongGrounds("^hard 1", "^bat 1", "^runs 1", "margin ^margin 1", "side ^side 0");
            wrongLaws("^margin 1", "^cloud", "^if cloud", "hard 1 if ^if", "hard 1 if ^and cloud", "hard 1 if 1 < 2 ^session", "hard 1 if ^hard", "hard 1 ^not cloud");
        });
        says("the ( or not that is a 7th one deep", () -> {
            wrongLaws("hard 1 if ((((((^(cloud)))))))", "hard 1 if not not not not not not ^not cloud", "hard 1 if not(not(not(^not cloud)))", "hard 1 if (not(not(not ^(cloud))))", "hard 1 if ((((((^(",
                "hard 1 if cloud or ((((((tide and ^not tide))))))");
        });
        says("of a LINE too many", () -> {
            wrongGrounds(times("margin 1", 14, ";") + ";^margin 1", times("margin 1", 14, ";") + ";  ^grass", times("margin 1", 14, ";") + ";^");
            wrongLaws(times("hard 1", 12, ";") + ";^hard 1", times("hard 1", 12, ";") + ";  ^grass", times("hard 1", 12, ";") + ";^");
        });
        says("of a book too many, the first word", () -> {
            TossGround x = books(56);
            wrongGround(x, times("book 0 0 0", 4, ";") + "; ^book 0 0 0;book 9");
            wrongGround(x, times("book 0 0 0", 4, ";") + ";margin 1;^book");
            due("56 stay", x.count(5), 56);
        });
        says("or the text's length, if more must come", () -> {
            wrongGrounds("margin^", "margin  ^", "sessions^", "side^", "side 0^", "side 0 bat^", "side 0 bat 1 bowl^", "slot 0 ^", "slot 0 0 runs 1 outs^", "cloud^", "rain 1;^", "book 0^", "book 0 0^", "rain 1; ^");
            wrongLaws("hard^", "hard 1 if^", "hard 1 if not^", "hard 1 if (cloud^", "hard 1 if cloud and^", "hard 1 if cloud or ^", "hard 1 if 1^", "hard 1 if 1 <^", "hard 1 if 1 < 2 +^", "hard 1;^", "hard 1 if ((((((^");
            wrongGround(new TossGround(), times(" ", 394, "") + "margin^");
        });
        says("Of a wrong text nothing stays", () -> {
            TossGround x = lawOf(told("margin 3"), "hard 2");
            String before = all(x);
            groundFault(x, "sessions 3;side 0 bat 1 bowl 1;slot 1 1 runs 1 outs 1;cloud 1;tide 1;rain 1;margin 1;drawworth 1;book 0 0 0;grass");
            same("behind a wrong ground", all(x), before);
            lawFault(x, "hard 1;hard 1 if cloud;hard");
            same("behind a wrong law", all(x), before);
        });
    }

    // ---- promises 1 to 10

    static void tapes() {
        says("A ground as at first", () -> same("new", all(new TossGround()), "acts 0 count 6 15 40 0 -1 0 0 0 0 6 match -1 0 0 0 0 -1 0 0 -1 0 0 log sides 5 5 5 5 slots"
            + times(" 32", 16, "") + " levels 1 1 1 1 1 1 book 0 0 0 0 0 0 seed 1"));
        says("public static final int NONE = -1", () -> due("NONE", TossGround.NONE, -1));
        says("Twenty bytes come behind the TAPE, of each number the highest first: how many it has", () -> {
            for (int at = 0; at < 40; at++) {
                TossGround x = new TossGround();
                int[] v = new int[10];
                for (int i = 0; i < 40; i++) v[i / 4] = v[i / 4] << 8 | (i == at ? 255 : 32);
                due("the first feed", x.feed(v[0], v[1], v[2], v[3], v[4]), 20);
                due("the second feed", x.feed(v[5], v[6], v[7], v[8], v[9]), 40);
                refuses("byte " + at, ARGUMENT, () -> x.ground());
                due("where it stands", x.fault(), at);
            }
        });
        says("NONE, and none come, if it would have more than 400", () -> {
            TossGround x = new TossGround();
            for (int i = 1; i <= 20; i++) due("feed", x.feed(0x20202020, 0x20202020, 0x20202020, 0x20202020, 0x20202020), 20 * i);
            due("401 to 420", x.feed(-1, -1, -1, -1, -1), -1);
            due("none came", x.end(401), false);
            due("400 stay", x.end(400), true);
            due("and they are as they were", x.ground(), 1);
            TossGround y = tape(new TossGround(), times(" ", 381, ""));
            due("it would have 401", y.feed(0, 0, 0, 0, 0), -1);
            y.end(380);
            due("it has 400", y.feed(0x20202020, 0x20202020, 0x20202020, 0x20202020, 0x20202020), 400);
            due("all 400 are read", y.ground(), 1);
        });
        says("The TAPE has its first n bytes alone: true", () -> {
            TossGround x = new TossGround();
            due("none of none", x.end(0), true);
            tape(x, "margin 77grass");
            due("the first nine", x.end(9), true);
            due("by them", x.ground() + x.count(1), 78);
            tape(x, "margin 6");
            due("all of them", x.end(8), true);
            due("by them", x.ground() + x.count(1), 8);
            tape(x, "margin 5");
            due("none of them", x.end(0), true);
            due("an empty text", x.ground() + x.count(1), 9);
        });
        says("Uses the TAPE up", () -> {
            TossGround x = duel(2, 0);
            x.feed(1, 0x04ff04ff, 0x04ff04ff, -1, -1);
            x.end(4);
            due("signs of the first four bytes", x.signs(2, 0, true), 1);
            x.feed(1, 0x04ff04ff, 0x04ff04ff, -1, -1);
            x.end(4);
            due("best of the first four bytes", x.best(true, true), 1);
            due("no bytes are left for it", x.best(false, true), 0);
            x.feed(0x0303ffff, -1, -1, -1, -1);
            x.end(2);
            due("swing by the first two bytes", x.swing(), 2);
            x.feed(0x68617264, 0x20316a6a, -1, -1, -1);
            x.end(6);
            due("a law by the first six bytes", x.law(), 1);
        });
        says("false, and nothing happens, if it has fewer, or n is below 0", () -> {
            TossGround x = tape(new TossGround(), "margin 7");
            for (int n : new int[] {9, 400, 401, Integer.MAX_VALUE, -1, Integer.MIN_VALUE}) due("end " + n, x.end(n), false);
            due("they stay", x.ground() + x.count(1), 8);
            due("the tape is used up", x.end(1), false);
        });
    }

    static void readingTexts() {
        says("Uses the TAPE up: a text of THE GROUND: how many texts there are", () -> {
            TossGround x = tape(new TossGround(), "margin 7");
            due("the first", x.ground(), 1);
            due("an empty one", x.ground(), 2);
            due("the tape", x.feed(0, 0, 0, 0, 0), 20);
            refuses("a wrong one", ARGUMENT, () -> x.ground());
            due("the tape behind it", x.feed(0, 0, 0, 0, 0), 20);
            due("two texts stay", x.count(3), 2);
        });
        says("IllegalArgumentException: it is wrong; UnsupportedOperationException: there are 12", () -> {
            TossGround x = told("", "", "", "", "", "", "", "", "", "", "", "margin 1");
            refuses("wrong, and there are 12", ARGUMENT, () -> tape(x, "margin 2;").ground());
            due("its fault", x.fault(), 9);
            refuses("right, and there are 12", UNSUPPORTED, () -> tape(x, "margin 2").ground());
            due("its fault", x.fault(), -1);
            due("the tape is used up", x.end(1), false);
            due("nothing of it stays", x.count(1), 1);
        });
        says("Uses the TAPE up: THE LAW: how many LINES. IllegalArgumentException: the text is wrong", () -> {
            TossGround x = tape(new TossGround(), "hard 1");
            due("one line", x.law(), 1);
            due("the tape", x.end(1), false);
            due("no line", x.law(), 0);
            due("12 lines", tape(x, times("hard 1", 12, ";")).law(), 12);
            refuses("13 lines", ARGUMENT, () -> tape(x, times("hard 1", 13, ";")).law());
            due("the tape behind it", x.end(1), false);
            due("12 stay", x.count(4), 12);
            TossGround y = told("", "", "", "", "", "", "", "", "", "", "", "");
            for (int i = 0; i < 14; i++) due("laws are not counted as texts", tape(y, "hard 1").law(), 1);
        });
        says("The first wrong byte of the latest text that was read; NONE without one, and ahead of any", () -> {
            TossGround x = new TossGround();
            due("ahead of any", x.fault(), -1);
            groundFault(x, "margin x");
            due("of the ground", x.fault(), 7);
            lawFault(x, "hard x");
            due("of the law, the latest", x.fault(), 5);
            refuses("what is no text", ARGUMENT, () -> bytes(x, 9).best(false, false));
            due("stays", x.fault(), 5);
            lawFault(x, "hard 1");
            due("of a right one", x.fault(), -1);
            groundFault(x, "x");
            due("the first byte", x.fault(), 0);
            groundFault(x, "");
            due("of an empty one", x.fault(), -1);
        });
    }

    static void whatIsTold() {
        says("BAT of a SIDE (bowl false), or BOWL", () -> {
            within("side", INDEX, 0, 1, n -> new TossGround().side(n, false));
            within("side, bowl", INDEX, 0, 1, n -> new TossGround().side(n, true));
        });
        says("RUNS of a SLOT (outs false), or OUTS", () -> {
            within("level", INDEX, 0, 3, n -> new TossGround().slot(n, 0, false));
            within("slot", INDEX, 0, 3, n -> new TossGround().slot(0, n, true));
        });
        says("Of a SESSION (0 to S less 1) what 0 DAY, 1 1 with CLOUD, 2 1 with TIDE, 3 1 with RAIN. NoSuchElementException: another what", () -> {
            TossGround x = told("sessions 4;cloud 0;tide 3;rain 0 3");
            within("session", INDEX, 0, 3, n -> x.session(n, 3));
            within("what", ELEMENT, 0, 3, n -> x.session(3, n));
            int[] first = {0, 1, 0, 1};
            int[] last = {1, 0, 1, 1};
            for (int what = 0; what < 4; what++) {
                due("of the first one, what " + what, x.session(0, what), first[what]);
                due("of the last one, what " + what, x.session(3, what), last[what]);
            }
            refuses("neither is", INDEX, () -> x.session(4, 4));
        });
        says("LEVEL, a SIDE batting", () -> {
            TossGround x = told("sessions 9");
            within("session", INDEX, 0, 8, n -> x.level(n, 0, 0));
            within("innings", INDEX, 0, 3, n -> x.level(0, n, 0));
            within("side", INDEX, 0, 1, n -> x.level(0, 0, n));
            within("session of 2", INDEX, 0, 1, n -> told("sessions 2").level(n, 0, 0));
        });
    }

    public static void main(String[] args) {
        numbersOfTheGround();
        groundTexts();
        lawTexts();
        wordsAndBlanks();
        wrongBytes();
        tapes();
        readingTexts();
        whatIsTold();
        end();
    }
}
