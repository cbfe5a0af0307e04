/** The document's sentences on calls that are refused: by which exception, which of several, and what stays as it was. */
public final class TossGroundRefusalsEdgeTest extends TossGroundSentences {

    static final int[] BELOW_AND_ABOVE = {-1, Integer.MIN_VALUE, Integer.MAX_VALUE};

    /** The bound itself and what is far beyond, above and below. */
    static void none(String what, Class<?> refusal, int bound, Ask ask) {
        refuses(what + " " + bound, refusal, () -> ask.of(bound));
        for (int n : BELOW_AND_ABOVE) refuses(what + " " + n, refusal, () -> ask.of(n));
    }

    static void whichException() {
        says("IndexOutOfBoundsException: there is no such SIDE, LEVEL, SLOT, SESSION, INNINGS", () -> {
            TossGround x = duel(9, 0, 0, 0, 0, 0, 0, 0);
            none("side", INDEX, 2, n -> x.side(n, true));
            none("level, side", INDEX, 2, n -> x.level(0, 0, n));
            none("toss", INDEX, 2, n -> new TossGround().toss(n));
            none("worth", INDEX, 2, n -> x.worth(n, 0));
            none("evens", INDEX, 2, n -> x.evens(n));
            none("table, side", INDEX, 2, n -> x.table(0, 0, n, true));
            none("form", INDEX, 2, n -> x.form(n, 0));
            none("hardest, side", INDEX, 2, n -> x.hardest(0, n));
            none("slot, level", INDEX, 4, n -> x.slot(n, 0, true));
            none("slot", INDEX, 4, n -> x.slot(0, n, true));
            none("bring", INDEX, 4, n -> x.bring(n));
            none("hold", INDEX, 4, n -> x.hold(n));
            none("after", INDEX, 4, n -> x.after(n, 0));
            none("session", INDEX, 9, n -> x.session(n, 0));
            none("level, session", INDEX, 9, n -> x.level(n, 0, 0));
            none("table, session", INDEX, 9, n -> x.table(n, 0, 0, true));
            none("level, innings", INDEX, 4, n -> x.level(0, n, 0));
            none("table, innings", INDEX, 4, n -> x.table(0, n, 0, true));
            none("hardest, innings", INDEX, 4, n -> x.hardest(n, 0));
            none("wins, played", INDEX, 10, n -> x.wins(n, 0, false, 0, 0, 0));
            none("wins, innings", INDEX, 4, n -> x.wins(9, n, false, 0, 0, 0));
            none("declares, played", INDEX, 10, n -> x.declares(n, 0, false, 0, 0));
            none("declares, innings", INDEX, 4, n -> x.declares(9, n, false, 0, 0));
            none("when", INDEX, 10, n -> x.when(n, 0));
            none("enforces", INDEX, 10, n -> x.enforces(n, 0));
            none("chased", INDEX, 10, n -> x.chased(n));
            none("holds", INDEX, 10, n -> x.holds(n, true, 0, 0));
            none("turnover", INDEX, 10, n -> x.turnover(n, 0));
            none("line, played", INDEX, 10, n -> x.line(n, 0, false, 0, 0));
            none("line, innings", INDEX, 4, n -> x.line(9, n, false, 0, 0));
        });
        says("IllegalArgumentException: a number is none", () -> {
            TossGround x = duel(9, 0);
            within("wins, lead", ARGUMENT, -81, 81, n -> x.wins(9, 0, false, n, 0, 0));
            none("wins, out", ARGUMENT, 10, n -> x.wins(9, 0, false, 0, n, 0));
            within("declares, lead", ARGUMENT, -81, 81, n -> x.declares(9, 3, false, n, 0));
            none("declares, out", ARGUMENT, 10, n -> x.declares(9, 3, false, 0, n));
            none("when", ARGUMENT, 10, n -> x.when(9, n));
            within("enforces", ARGUMENT, -81, 81, n -> x.enforces(9, n));
            within("holds, lead", ARGUMENT, -81, 81, n -> x.holds(9, true, n, 0));
            none("holds, out", ARGUMENT, 10, n -> x.holds(9, true, 0, n));
            none("turnover", ARGUMENT, 10, n -> x.turnover(9, n));
            within("line, lead", ARGUMENT, -81, 81, n -> x.line(9, 3, false, n, 0));
            none("line, out", ARGUMENT, 10, n -> x.line(9, 3, false, 0, n));
            none("cost", ARGUMENT, 4, n -> x.cost(n));
            none("signs, sign", ARGUMENT, 3, n -> x.signs(n, 0, false));
            none("signs, value", ARGUMENT, 4, n -> x.signs(0, n, false));
            none("form", ARGUMENT, 3, n -> x.form(0, n));
        });
        says("IllegalStateException: it cannot be now", () -> {
            TossGround x = new TossGround();
            Act[] acts = {y -> y.play(), y -> y.bring(0), y -> y.hold(0), y -> y.declare(), y -> y.follow(), y -> y.here(0), y -> y.after(0, 0), y -> y.turning(false), y -> y.cost(0),
                y -> y.swing(), y -> y.blind(0), y -> y.target(false)};
            for (int i = 0; i < acts.length; i++) {
                Act act = acts[i];
                refuses("ahead of the toss, act " + i, STATE, () -> act.on(x));
            }
            TossGround over = tell(duel(1, 0, 0), "margin 0");
            for (int i = 0; i < acts.length; i++) {
                Act act = acts[i];
                refuses("over, act " + i, i == 5 || i == 10 ? null : STATE, () -> act.on(over));
            }
            refuses("the toss was", STATE, () -> over.toss(1));
        });
    }

    static void whichOfSeveral() {
        says("Of several exceptions the one told first is thrown", () -> {
            TossGround x = new TossGround();
            TossGround full = told("", "", "", "", "", "", "", "", "", "", "", "");
            refuses("ground: wrong, and there are 12", ARGUMENT, () -> tape(full, "x").ground());
            refuses("session: no session, no what", INDEX, () -> x.session(6, 4));
            refuses("toss: no side, and it was", INDEX, () -> duel(9, 0).toss(2));
            refuses("bring: no slot, ahead of the toss", INDEX, () -> x.bring(4));
            refuses("hold: no slot, ahead of the toss", INDEX, () -> x.hold(4));
            refuses("here: ahead of the toss, no what", STATE, () -> x.here(4));
            refuses("worth: no side, no what", INDEX, () -> x.worth(2, 4));
            refuses("after: no slot, ahead of the toss, no what", INDEX, () -> x.after(4, 4));
            refuses("after: ahead of the toss, no what", STATE, () -> x.after(3, 4));
            refuses("wins: not played, no lead, no what", INDEX, () -> x.wins(7, 0, false, 82, 0, 3));
            refuses("wins: no innings, no out, no what", INDEX, () -> x.wins(0, 4, false, 0, 10, 3));
            refuses("wins: no lead, no what", ARGUMENT, () -> x.wins(0, 0, false, 82, 0, 3));
            refuses("wins: no out, no what", ARGUMENT, () -> x.wins(0, 0, false, 0, 10, 3));
            refuses("declares: not played, no lead", INDEX, () -> x.declares(7, 0, false, 82, 0));
            refuses("declares: no innings, no out", INDEX, () -> x.declares(0, 4, false, 0, 10));
            refuses("when: not played, no out", INDEX, () -> x.when(7, 10));
            refuses("enforces: not played, no lead", INDEX, () -> x.enforces(7, 82));
            refuses("holds: not played, no lead", INDEX, () -> x.holds(7, false, 82, 0));
            refuses("holds: not played, no out", INDEX, () -> x.holds(-1, false, 0, 10));
            refuses("turnover: not played, no out", INDEX, () -> x.turnover(7, 10));
            refuses("line: not played, no lead", INDEX, () -> x.line(7, 0, false, 82, 0));
            refuses("line: no innings, no out", INDEX, () -> x.line(0, 4, false, 0, 10));
            refuses("cost: no choice, ahead of the toss", ARGUMENT, () -> x.cost(4));
            refuses("cost: no choice, over", ARGUMENT, () -> duel(1, 0, 0).cost(-1));
            refuses("swing: ahead of the toss, not that", STATE, () -> bytes(x, 4).swing());
            refuses("blind: ahead of the toss, no what", STATE, () -> x.blind(4));
            refuses("form: no side, no day", INDEX, () -> x.form(2, 3));
        });
    }

    /** It is refused, and all is as it was, the tape too. */
    static void leavesAll(String what, Class<?> refusal, TossGround x, Act act) {
        String before = all(x);
        int fault = x.fault();
        tape(x, "margin 7");
        refuses(what, refusal, () -> act.on(x));
        same(what, all(x), before);
        due(what + ": fault()", x.fault(), fault);
        due(what + ": the tape", x.end(8), true);
    }

    /** It is refused, and all but the tape, which is used up, is as it was. */
    static void usesTape(String what, Class<?> refusal, TossGround x, Act act) {
        String before = all(x);
        int fault = x.fault();
        refuses(what, refusal, () -> act.on(x));
        same(what, all(x), before);
        due(what + ": fault()", x.fault(), fault);
        due(what + ": the tape is used up", x.feed(0, 0, 0, 0, 0), 20);
    }

    static void whatStays() {
        says("a call that throws changes nothing but the TAPE, where it is used up, and fault(), where a text is read", () -> {
            leavesAll("toss of no side", INDEX, duelGround(9), x -> x.toss(2));
            leavesAll("a second toss", STATE, duel(9, 0, 3), x -> x.toss(1));
            leavesAll("play ahead of the toss", STATE, duelGround(9), x -> x.play());
            leavesAll("play when it is over", STATE, duel(1, 0, 3), x -> x.play());
            leavesAll("bring of no slot", INDEX, duel(9, 0, 3), x -> x.bring(4));
            leavesAll("bring ahead of the toss", STATE, duelGround(9), x -> x.bring(0));
            leavesAll("bring when it is over", STATE, duel(1, 0, 3), x -> x.bring(0));
            leavesAll("hold of no slot", INDEX, duel(9, 0, 0, 0, 0, 0, 0, 0), x -> x.hold(-1));
            leavesAll("hold in innings 2", STATE, duel(9, 0, 0, 0, 0, 0, 3), x -> x.hold(0));
            leavesAll("declare, fresh", STATE, duel(9, 0, 0, 0), x -> x.declare());
            leavesAll("declare in innings 3", STATE, duel(9, 0, 0, 0, 0, 0, 0, 0, 2), x -> x.declare());
            leavesAll("follow on below the margin", STATE, duel(9, 0, 1, 0, 0, 0), x -> x.follow());
            leavesAll("follow on, not fresh", STATE, tell(duel(9, 0, 0, 0, 0, 0, 2), "margin 0"), x -> x.follow());
            leavesAll("a wrong choice", ARGUMENT, duel(9, 0, 3), x -> x.cost(4));
            leavesAll("a choice that cannot be made", STATE, duel(9, 0, 3), x -> x.cost(2));
            leavesAll("after no slot", INDEX, duel(9, 0, 3), x -> x.after(4, 0));
            leavesAll("here of no what", ELEMENT, duel(9, 0, 3), x -> x.here(4));
            leavesAll("target in innings 0", STATE, duel(9, 0, 3), x -> x.target(true));
            leavesAll("line of no lead", ARGUMENT, duel(9, 0, 3), x -> x.line(0, 2, false, 82, 0));
            leavesAll("form of no day", ARGUMENT, duel(9, 0, 3), x -> x.form(0, 3));
            leavesAll("log of no what", ELEMENT, duel(9, 0, 3), x -> x.log(0, 7));
            usesTape("swing ahead of the toss", STATE, bytes(duelGround(9), 0), x -> x.swing());
            usesTape("swing of too many", ARGUMENT, bytes(duel(2, 0, 3), 0, 0), x -> x.swing());
            usesTape("swing when it is over", STATE, bytes(duel(1, 0, 3), 0), x -> x.swing());
            usesTape("signs of half a morning", ARGUMENT, bytes(duel(9, 0, 3), 0, 0), x -> x.signs(0, 0, false));
            usesTape("signs of no sign", ARGUMENT, bytes(duel(9, 0, 3), 0, 0, 0, 0), x -> x.signs(3, 0, false));
            usesTape("best of half a morning", ARGUMENT, bytes(duel(9, 0, 3), 0, 0), x -> x.best(true, true));
            TossGround wrong = duel(9, 0, 3);
            groundFault(wrong, "margin x");
            usesTape("signs, ahead of them a wrong text", ARGUMENT, bytes(wrong, 9), x -> x.signs(0, 0, true));
        });
        says("(also by one that is refused)", () -> {
            TossGround x = bring(lawOf(tell(duel(9, 0, 3), "margin 3"), "hard 2"), 3);
            String before = all(x);
            refuses("a wrong ground", ARGUMENT, () -> tape(x, "margin 4;margin x").ground());
            due("its fault", x.fault(), 16);
            due("the tape is used up", x.end(1), false);
            same("nothing of it", all(x), before);
            refuses("a wrong law", ARGUMENT, () -> tape(x, "hard 1;hard 1 if x").law());
            due("its fault", x.fault(), 17);
            due("the tape is used up", x.end(1), false);
            same("nothing of it", all(x), before);
            TossGround full = bring(tell(duel(9, 0, 3), "margin 3", "", "", "", "", "", "", "", "", "", ""), 3);
            String with12 = all(full);
            due("texts", full.count(3), 12);
            refuses("a right ground, but there are 12", UNSUPPORTED, () -> tape(full, "margin 4").ground());
            due("its fault: none", full.fault(), -1);
            due("the tape is used up", full.end(1), false);
            same("nothing of it", all(full), with12);
        });
    }

    public static void main(String[] args) {
        whichException();
        whichOfSeveral();
        whatStays();
        end();
    }
}
