import java.util.NoSuchElementException;

/** Bat or field: matches of two sides by sessions, and what every choice in them is worth. */
public final class TossGround {
    public static final int NONE = -1;

    /** What is answered for "none" where NONE itself could be a number. */
    private static final int WITHOUT = -99;
    private static final int DRAW = 2;
    private static final int TAPE_MOST = 400;
    private static final int TEXTS_MOST = 12;
    private static final int BOOKS_MOST = 60;
    private static final int SESSIONS_MOST = 9;
    private static final int LEAD_MOST = 81;
    private static final int OUT_ALL = 10;
    private static final int LAST_INNINGS = 3;
    private static final int LEVELS = 4;
    private static final int SLOTS = 4;
    private static final int LOG_WIDTH = 7;
    private static final int GO_ON = 0;
    private static final int DECLARE = 1;
    private static final int FOLLOW_ON = 2;
    private static final int HOLD = 3;

    private final int[] tape = new int[TAPE_MOST];
    private int tapeLength = 0;
    private int faultAt = NONE;
    private final Odds odds = new Odds();
    private final Ground told = odds.ground;
    private final Match game = new Match();
    private final Match trial = new Match();
    private final Past past = new Past();
    private final GroundText groundText = new GroundText();
    private final LawText lawText = new LawText();
    private final Mornings mornings = new Mornings();
    private final Ground keptTold = new Ground();
    private final Match keptGame = new Match();
    private boolean kept = false;

    public TossGround() {
    }

    // ---- the tape and the texts

    public int feed(int a, int b, int c, int d, int e) {
        if (tapeLength + 20 > TAPE_MOST) {
            return NONE;
        }
        putBytes(a);
        putBytes(b);
        putBytes(c);
        putBytes(d);
        putBytes(e);
        return tapeLength;
    }

    public boolean end(int n) {
        if (n < 0 || n > tapeLength) {
            return false;
        }
        tapeLength = n;
        return true;
    }

    public int ground() throws IllegalArgumentException, UnsupportedOperationException {
        faultAt = groundText.readGround(tape, useTape(), game.first == NONE, told.book.size);
        if (faultAt != NONE) {
            throw new IllegalArgumentException("the text is wrong");
        }
        if (told.texts >= TEXTS_MOST) {
            throw new UnsupportedOperationException("there are 12 texts");
        }
        groundText.tell(told);
        told.texts++;
        startAfresh();
        return told.texts;
    }

    public int law() throws IllegalArgumentException {
        faultAt = lawText.readLaw(tape, useTape());
        if (faultAt != NONE) {
            throw new IllegalArgumentException("the text is wrong");
        }
        told.law.copyFrom(lawText.law);
        startAfresh();
        return told.law.lines;
    }

    public int fault() {
        return faultAt;
    }

    // ---- the ground as it is told

    public int side(int side, boolean bowl) throws IndexOutOfBoundsException {
        mustBeBelow(side, 2);
        return bowl ? told.bowlOf(side) : told.batOf(side);
    }

    public int slot(int level, int slot, boolean outs) throws IndexOutOfBoundsException {
        mustBeBelow(level, LEVELS);
        mustBeBelow(slot, SLOTS);
        return outs ? told.outsOf(level, slot) : told.runsOf(level, slot);
    }

    public int session(int session, int what) throws IndexOutOfBoundsException, NoSuchElementException {
        mustBeBelow(session, told.sessions);
        switch (what) {
            case 0:
                return session / 3;
            case 1:
                return bitOf(told.cloud, session);
            case 2:
                return bitOf(told.tide, session);
            case 3:
                return bitOf(told.rain, session);
            default:
                throw new NoSuchElementException("no such what");
        }
    }

    public int level(int session, int innings, int side) throws IndexOutOfBoundsException {
        mustBeBelow(session, told.sessions);
        mustBeBelow(innings, 4);
        mustBeBelow(side, 2);
        return told.levelOf(session, innings, side);
    }

    public int table(int session, int innings, int side, boolean outs) throws IndexOutOfBoundsException {
        mustBeBelow(session, told.sessions);
        mustBeBelow(innings, 4);
        mustBeBelow(side, 2);
        int level = told.levelOf(session, innings, side);
        int sum = 0;
        for (int slot = 0; slot < SLOTS; slot++) {
            sum += outs ? told.outsIn(session, level, slot) : told.runsIn(session, level, slot);
        }
        return sum;
    }

    public int hardest(int innings, int side) throws IndexOutOfBoundsException {
        mustBeBelow(innings, 4);
        mustBeBelow(side, 2);
        int found = 0;
        int most = NONE;
        for (int session = 0; session < told.sessions; session++) {
            int level = told.levelOf(session, innings, side);
            if (level > most) {
                most = level;
                found = session;
            }
        }
        return found;
    }

    public int count(int what) {
        switch (what) {
            case 0:
                return told.sessions;
            case 1:
                return told.margin;
            case 2:
                return told.drawWorth;
            case 3:
                return told.texts;
            case 4:
                return told.law.lines;
            case 5:
                return told.book.size;
            case 6:
                return told.cloud;
            case 7:
                return told.tide;
            case 8:
                return told.rain;
            case 9:
                return told.sessions - game.played;
            case 10:
                return past.size;
            default:
                return NONE;
        }
    }

    // ---- the match and its acts

    public int match(int what) throws NoSuchElementException {
        switch (what) {
            case 0:
                return game.first;
            case 1:
                return game.innings;
            case 2:
                return game.out;
            case 3:
                return game.runsOf(0);
            case 4:
                return game.runsOf(1);
            case 5:
                return game.isOn() ? game.batting() : NONE;
            case 6:
                return game.played;
            case 7:
                return game.followed ? 1 : 0;
            case 8:
                return game.winner;
            case 9:
                return game.mayFollow(told.margin) ? 1 : 0;
            case 10:
                return game.fresh ? 1 : 0;
            default:
                throw new NoSuchElementException("no such what");
        }
    }

    public int toss(int side) throws IndexOutOfBoundsException, IllegalStateException {
        mustBeBelow(side, 2);
        if (game.first != NONE) {
            throw new IllegalStateException("the toss was");
        }
        past.remember(game);
        game.begin(side);
        return told.levelOf(0, 0, side);
    }

    public int play() throws IllegalStateException {
        mustBeOn();
        past.remember(game);
        int slot = game.drawSlot();
        game.playSession(told, slot, false);
        return slot;
    }

    public int bring(int slot) throws IndexOutOfBoundsException, IllegalStateException {
        mustBeBelow(slot, SLOTS);
        mustBeOn();
        past.remember(game);
        int bats = game.batting();
        game.playSession(told, slot, false);
        return game.leadOf(bats);
    }

    public int hold(int slot) throws IndexOutOfBoundsException, IllegalStateException {
        mustBeBelow(slot, SLOTS);
        mustBeChase();
        past.remember(game);
        int bats = game.batting();
        game.playSession(told, slot, true);
        return game.leadOf(bats);
    }

    public int declare() throws IllegalStateException {
        if (!game.mayDeclare()) {
            throw new IllegalStateException("nobody may declare");
        }
        past.remember(game);
        int bats = game.batting();
        game.endByDeclaring(told.sessions);
        return game.leadOf(bats);
    }

    public int follow() throws IllegalStateException {
        if (!game.mayFollow(told.margin)) {
            throw new IllegalStateException("nobody may be made to follow on");
        }
        past.remember(game);
        game.followed = true;
        return game.leadOf(game.first);
    }

    public int anew() {
        past.remember(game);
        int played = game.played;
        game.clearMatch();
        return played;
    }

    public int seed(int n) {
        int before = game.seed;
        game.seed = n;
        return before;
    }

    public boolean undo() {
        return past.giveBack(game);
    }

    public void image() {
        keptTold.copyFrom(told);
        keptGame.copyFrom(game);
        kept = true;
    }

    public boolean back() {
        if (!kept) {
            return false;
        }
        told.copyFrom(keptTold);
        game.copyFrom(keptGame);
        startAfresh();
        return true;
    }

    // ---- what the match tells

    public int target(boolean each) throws IllegalStateException {
        mustBeChase();
        int runs = 1 - game.leadOf(game.batting());
        int left = told.sessions - game.played;
        if (!each || left <= 0) {
            return runs;
        }
        return (runs + left - 1) / left;
    }

    public int form(int side, int day) throws IndexOutOfBoundsException, IllegalArgumentException {
        mustBeBelow(side, 2);
        if (day < 0 || day > 2) {
            throw new IllegalArgumentException("no such day");
        }
        int sum = 0;
        for (int session = day * 3; session < day * 3 + 3; session++) {
            if (session < game.played && game.logged(session, 1) == side) {
                sum += game.logged(session, 6);
            }
        }
        return sum;
    }

    public int log(int session, int what) throws NoSuchElementException {
        if (what < 0 || what >= LOG_WIDTH) {
            throw new NoSuchElementException("no such what");
        }
        return game.logged(session, what);
    }

    public int swing() throws IllegalStateException, IllegalArgumentException {
        int length = useTape();
        mustBeOn();
        if (length != told.sessions - game.played || !tapeIsBelow(length, SLOTS)) {
            throw new IllegalArgumentException("the tape is not a slot for each session left");
        }
        trial.copyFrom(game);
        for (int i = 0; i < length && i < TAPE_MOST; i++) {
            if (trial.isOn()) {
                trial.playSession(told, tape[i], false);
            }
        }
        return trial.winner;
    }

    // ---- odds from the match as it is

    public long here(int what) throws IllegalStateException, NoSuchElementException {
        return oddsFromHere(what, false);
    }

    public long blind(int what) throws IllegalStateException, NoSuchElementException {
        return oddsFromHere(what, true);
    }

    public long after(int slot, int what) throws IndexOutOfBoundsException, IllegalStateException, NoSuchElementException {
        mustBeBelow(slot, SLOTS);
        mustBeOn();
        if (what < 0 || what > 3) {
            throw new NoSuchElementException("no such what");
        }
        return odds.part(waysAfter(slot), game.played + 1, what);
    }

    public int turning(boolean worst) throws IllegalStateException {
        mustBeOn();
        boolean toFirst = game.batting() == game.first;
        int found = 0;
        long extreme = 0;
        for (int slot = 0; slot < SLOTS; slot++) {
            long ways = waysAfter(slot);
            long value = odds.valueOf(ways, game.played + 1, toFirst, told.drawWorth);
            if (slot == 0 || (worst ? value < extreme : value > extreme)) {
                extreme = value;
                found = slot;
            }
        }
        return found;
    }

    public long cost(int choice) throws IllegalArgumentException, IllegalStateException {
        if (choice < GO_ON || choice > HOLD) {
            throw new IllegalArgumentException("no such choice");
        }
        mustBeOn();
        int kind = game.kind();
        int spot = game.spot();
        int lead = game.leadOf(game.first);
        int other = odds.otherChoice(kind, spot, lead);
        if (choice != GO_ON && choice != other) {
            throw new IllegalStateException("that choice cannot be made");
        }
        if (other == GO_ON) {
            return 0;
        }
        odds.ready(game.first, told.drawWorth, false);
        boolean toFirst = Odds.firstBats(kind);
        long waysGoing = odds.waysByChoice(false, game.played, kind, spot, lead);
        long waysTurned = odds.waysByChoice(true, game.played, kind, spot, lead);
        long going = odds.valueOf(waysGoing, game.played, toFirst, told.drawWorth);
        long turned = odds.valueOf(waysTurned, game.played, toFirst, told.drawWorth);
        return Math.max(going, turned) - (choice == GO_ON ? going : turned);
    }

    // ---- odds of a new match

    public long worth(int side, int what) throws IndexOutOfBoundsException, NoSuchElementException {
        mustBeBelow(side, 2);
        switch (what) {
            case 0:
                return tossValue(side, side);
            case 1:
                return tossValue(side, 1 - side);
            case 2:
                return Math.abs(tossValue(side, 0) - tossValue(side, 1));
            case 3:
                return leftValue(side);
            default:
                throw new NoSuchElementException("no such what");
        }
    }

    public long evens(int side) throws IndexOutOfBoundsException {
        mustBeBelow(side, 2);
        return Math.max(tossValue(side, 0), tossValue(side, 1)) + leftValue(side);
    }

    public int well() {
        int better0 = betterToBat(0);
        int better1 = betterToBat(1);
        int sum = 0;
        for (int i = 0; i < told.book.size; i++) {
            int tossed = told.book.cell(i, 0);
            int better = tossed == 0 ? better0 : better1;
            boolean batted = told.book.cell(i, 1) == tossed;
            if (better == 0 || (better > 0) == batted) {
                sum++;
            }
        }
        return sum;
    }

    // ---- odds of a told state

    public long wins(int played, int innings, boolean followed, int lead, int out, int what) throws IndexOutOfBoundsException, IllegalArgumentException, NoSuchElementException {
        mustBeState(played, innings, lead, out);
        if (what < 0 || what > 2) {
            throw new NoSuchElementException("no such what");
        }
        odds.ready(0, told.drawWorth, false);
        return winsOf(played, Odds.kindOf(innings, followed), lead, out, what);
    }

    public boolean declares(int played, int innings, boolean followed, int lead, int out) throws IndexOutOfBoundsException, IllegalArgumentException {
        mustBeState(played, innings, lead, out);
        odds.ready(0, told.drawWorth, false);
        return innings != LAST_INNINGS && odds.choosesTold(played, Odds.kindOf(innings, followed), lead, out);
    }

    public int when(int played, int out) throws IndexOutOfBoundsException, IllegalArgumentException {
        mustBeState(played, 2, 0, out);
        odds.ready(0, told.drawWorth, false);
        for (int lead = -LEAD_MOST; lead <= LEAD_MOST; lead++) {
            if (odds.choosesTold(played, Odds.kindOf(2, false), lead, out)) {
                return lead;
            }
        }
        return WITHOUT;
    }

    public boolean enforces(int played, int lead) throws IndexOutOfBoundsException, IllegalArgumentException {
        mustBeState(played, 2, lead, 0);
        odds.ready(0, told.drawWorth, false);
        return odds.chooses(played, Odds.kindOf(2, false), Odds.FRESH, lead);
    }

    public int chased(int played) throws IndexOutOfBoundsException {
        mustBeState(played, LAST_INNINGS, 0, 0);
        odds.ready(0, told.drawWorth, false);
        int kind = Odds.kindOf(LAST_INNINGS, false);
        for (int behind = LEAD_MOST; behind >= 0; behind--) {
            if (winsOf(played, kind, -behind, 0, 0) >= winsOf(played, kind, -behind, 0, 1)) {
                return behind;
            }
        }
        return NONE;
    }

    public boolean holds(int played, boolean followed, int lead, int out) throws IndexOutOfBoundsException, IllegalArgumentException {
        mustBeState(played, LAST_INNINGS, lead, out);
        odds.ready(0, told.drawWorth, false);
        return odds.choosesTold(played, Odds.kindOf(LAST_INNINGS, followed), lead, out);
    }

    public int turnover(int played, int out) throws IndexOutOfBoundsException, IllegalArgumentException {
        mustBeState(played, LAST_INNINGS, 0, out);
        odds.ready(0, told.drawWorth, false);
        for (int behind = LEAD_MOST; behind >= 0; behind--) {
            if (!odds.choosesTold(played, Odds.kindOf(LAST_INNINGS, false), -behind, out)) {
                return behind;
            }
        }
        return NONE;
    }

    public int line(int played, int innings, boolean followed, int lead, int out) throws IndexOutOfBoundsException, IllegalArgumentException {
        mustBeState(played, innings, lead, out);
        if (innings == LAST_INNINGS) {
            return NONE;
        }
        int kind = Odds.kindOf(innings, followed);
        for (int drawWorth = 0; drawWorth <= 100; drawWorth++) {
            odds.ready(0, drawWorth, false);
            if (!odds.choosesTold(played, kind, lead, out)) {
                return drawWorth == 0 ? NONE : drawWorth;
            }
        }
        return NONE;
    }

    // ---- the book

    public int book(int what) throws NoSuchElementException {
        if (what < 0 || what > 5) {
            throw new NoSuchElementException("no such what");
        }
        return told.book.tally(what);
    }

    public int share(int what, int of) throws NoSuchElementException {
        if (what < 0 || what > 5 || of < 0 || of > 5) {
            throw new NoSuchElementException("no such what");
        }
        int whole = told.book.tally(of);
        return whole <= 0 ? 0 : told.book.tally(what) * 10000 / whole;
    }

    public boolean habit(boolean even) {
        int all = told.book.tally(0);
        if (even) {
            int won = told.book.tally(3);
            return won == all - told.book.tally(5) - won;
        }
        return all > 0 && told.book.tally(1) * 10 >= all * 9;
    }

    public int streak(int what) throws NoSuchElementException {
        if (what < 0 || what > 2) {
            throw new NoSuchElementException("no such what");
        }
        return told.book.longestRun(what + 3);
    }

    // ---- signs of mornings

    public int signs(int sign, int value, boolean swung) throws IllegalArgumentException {
        int length = useTape();
        if (!tapeIsMornings(length) || sign < 0 || sign > 2 || value < 0 || value > 3) {
            throw new IllegalArgumentException("no mornings, or no such sign or value");
        }
        mornings.sort(tape, length, sign, sign);
        return mornings.swungWith(value) + (swung ? 0 : mornings.stillWith(value));
    }

    public int best(boolean rule, boolean many) throws IllegalArgumentException {
        int length = useTape();
        if (!tapeIsMornings(length)) {
            throw new IllegalArgumentException("no mornings");
        }
        int found = 0;
        int most = NONE;
        for (int i = 0; i < 3; i++) {
            int one = rule ? (i == 2 ? 1 : 0) : i;
            int two = rule ? (i == 0 ? 1 : 2) : i;
            mornings.sort(tape, length, one, two);
            int right = mornings.toldRight();
            if (right > most) {
                most = right;
                found = i;
            }
        }
        return many ? most : found;
    }

    // ---- what the face's methods share

    private void putBytes(int n) {
        for (int shift = 24; shift >= 0; shift -= 8) {
            if (tapeLength >= 0 && tapeLength < TAPE_MOST) {
                tape[tapeLength] = (n >>> shift) & 255;
                tapeLength++;
            }
        }
    }

    /** The bytes stay where they are till the next feed, so that this call can still read them. */
    private int useTape() {
        int length = tapeLength;
        tapeLength = 0;
        return length;
    }

    private boolean tapeIsBelow(int length, int bound) {
        for (int i = 0; i < length && i < TAPE_MOST; i++) {
            if (tape[i] >= bound) {
                return false;
            }
        }
        return true;
    }

    private boolean tapeIsMornings(int length) {
        if (length % 4 != 0 || !tapeIsBelow(length, 4)) {
            return false;
        }
        for (int i = 3; i < length && i < TAPE_MOST; i += 4) {
            if (tape[i] > 1) {
                return false;
            }
        }
        return true;
    }

    /** Behind a text and behind going back neither acts nor odds of before may be used. */
    private void startAfresh() {
        told.forgetLevels();
        odds.forget();
        past.clearAll();
    }

    private void mustBeBelow(int index, int bound) {
        if (index < 0 || index >= bound) {
            throw new IndexOutOfBoundsException("there is no such one");
        }
    }

    private void mustBeOn() {
        if (!game.isOn()) {
            throw new IllegalStateException("ahead of the toss, or over");
        }
    }

    private void mustBeChase() {
        if (!game.isOn() || game.innings != LAST_INNINGS) {
            throw new IllegalStateException("not innings 3, or over");
        }
    }

    private void mustBeState(int played, int innings, int lead, int out) {
        mustBeBelow(played, told.sessions + 1);
        mustBeBelow(innings, 4);
        if (lead < -LEAD_MOST || lead > LEAD_MOST || out < 0 || out >= OUT_ALL) {
            throw new IllegalArgumentException("no such lead or out");
        }
    }

    private long oddsFromHere(int what, boolean blindly) {
        if (game.first == NONE) {
            throw new IllegalStateException("ahead of the toss");
        }
        if (what < 0 || what > 3) {
            throw new NoSuchElementException("no such what");
        }
        odds.ready(game.first, told.drawWorth, blindly);
        long ways;
        if (game.winner != NONE) {
            ways = game.winner == DRAW ? 0L : odds.allTo(game.winner == game.first, game.played);
        } else {
            ways = odds.waysFrom(game.played, game.kind(), game.spot(), game.leadOf(game.first));
        }
        return odds.part(ways, game.played, what);
    }

    private long waysAfter(int slot) {
        odds.ready(game.first, told.drawWorth, false);
        return odds.waysBySlot(game.played, game.kind(), game.out, game.leadOf(game.first), slot);
    }

    private long tossValue(int side, int batsFirst) {
        return odds.valueOf(odds.waysOfNew(batsFirst), 0, side == batsFirst, told.drawWorth);
    }

    /** Above 0: a side that won the toss had better bat; below 0: field; 0: either. */
    private int betterToBat(int side) {
        return Long.compare(tossValue(side, side), tossValue(side, 1 - side));
    }

    private long leftValue(int side) {
        int other = 1 - side;
        boolean otherBats = tossValue(other, other) >= tossValue(other, side);
        return tossValue(side, otherBats ? other : side);
    }

    private long winsOf(int played, int kind, int lead, int out, int what) {
        boolean firstBats = Odds.firstBats(kind);
        long ways = odds.waysFrom(played, kind, out, firstBats ? lead : -lead);
        if (what == 2) {
            return odds.part(ways, played, 2);
        }
        return Odds.waysOf(ways, firstBats == (what == 0));
    }

    private static int bitOf(int bits, int index) {
        return (bits >>> index) & 1;
    }

    /** All that is told of the ground: the numbers, the law, the book of old matches. */
    private static final class Ground {
        int sessions = 6;
        int cloud = 0;
        int tide = 0;
        int rain = 0;
        int margin = 15;
        int drawWorth = 40;
        int texts = 0;
        final int[] bat = new int[2];
        final int[] bowl = new int[2];
        final int[] runs = new int[LEVELS * SLOTS];
        final int[] outs = new int[LEVELS * SLOTS];
        final Law law = new Law();
        final Book book = new Book();
        /** Levels found since the latest text, NONE where not yet asked for. */
        final int[] levels = new int[SESSIONS_MOST * 8];

        Ground() {
            for (int i = 0; i < 2; i++) {
                bat[i] = 5;
                bowl[i] = 5;
            }
            for (int i = 0; i < LEVELS * SLOTS; i++) {
                runs[i] = 3;
                outs[i] = 2;
            }
            for (int i = 0; i < SESSIONS_MOST * 8; i++) {
                levels[i] = NONE;
            }
        }

        void copyFrom(Ground other) {
            sessions = other.sessions;
            cloud = other.cloud;
            tide = other.tide;
            rain = other.rain;
            margin = other.margin;
            drawWorth = other.drawWorth;
            texts = other.texts;
            for (int i = 0; i < 2; i++) {
                bat[i] = other.bat[i];
                bowl[i] = other.bowl[i];
            }
            for (int i = 0; i < LEVELS * SLOTS; i++) {
                runs[i] = other.runs[i];
                outs[i] = other.outs[i];
            }
            law.copyFrom(other.law);
            book.copyFrom(other.book);
        }

        void setSide(int side, int newBat, int newBowl) {
            if (side >= 0 && side < 2) {
                bat[side] = newBat;
                bowl[side] = newBowl;
            }
        }

        void setSlot(int level, int slot, int newRuns, int newOuts) {
            int index = level * SLOTS + slot;
            if (index >= 0 && index < LEVELS * SLOTS) {
                runs[index] = newRuns;
                outs[index] = newOuts;
            }
        }

        void forgetLevels() {
            for (int i = 0; i < SESSIONS_MOST * 8; i++) {
                levels[i] = NONE;
            }
        }

        int batOf(int side) {
            return side == 0 ? bat[0] : bat[1];
        }

        int bowlOf(int side) {
            return side == 0 ? bowl[0] : bowl[1];
        }

        int runsOf(int level, int slot) {
            int index = level * SLOTS + slot;
            return index < 0 || index >= LEVELS * SLOTS ? 0 : runs[index];
        }

        int outsOf(int level, int slot) {
            int index = level * SLOTS + slot;
            return index < 0 || index >= LEVELS * SLOTS ? 0 : outs[index];
        }

        /** Runs as they count: none in a session of rain. */
        int runsIn(int session, int level, int slot) {
            return bitOf(rain, session) == 1 ? 0 : runsOf(level, slot);
        }

        int outsIn(int session, int level, int slot) {
            return bitOf(rain, session) == 1 ? 0 : outsOf(level, slot);
        }

        int levelOf(int session, int innings, int side) {
            int index = session * 8 + innings * 2 + side;
            if (index < 0 || index >= SESSIONS_MOST * 8) {
                return 0;
            }
            if (levels[index] == NONE && law.lines == NONE) {
                levels[index] = 1;
            } else if (levels[index] == NONE) {
                law.stand(session, innings, side);
                law.standSides(batOf(side), bowlOf(1 - side));
                law.standSky(bitOf(cloud, session), bitOf(tide, session));
                levels[index] = Math.min(3, law.hardness());
            }
            return levels[index];
        }
    }

    /** The law in a form that is quick to ask: its parts, operands ahead of what joins them. */
    private static final class Law {
        /** Codes below this are numbers of the text. */
        static final int PLACE = 1000;
        static final int SESSION = 1000;
        static final int DAY = 1001;
        static final int INNINGS = 1002;
        static final int SIDE = 1003;
        static final int BAT = 1004;
        static final int BOWL = 1005;
        static final int CLOUD = 1006;
        static final int TIDE = 1007;
        static final int PLACES = 8;
        static final int NOT = 1100;
        static final int AND = 1101;
        static final int OR = 1102;
        static final int LESS = 1103;
        static final int MORE = 1104;
        static final int PLUS = 1105;
        /** From here on: the end of a line, with how hard it makes the pitch. */
        static final int LINE = 2000;
        /** Each nesting keeps at most an or, an and and a sum waiting; six nestings are the most. */
        static final int STACK = 64;

        int lines = NONE;
        int size = 0;
        final int[] code = new int[TAPE_MOST];
        private final int[] place = new int[PLACES];
        private final int[] stack = new int[STACK];

        void copyFrom(Law other) {
            lines = other.lines;
            size = other.size;
            for (int i = 0; i < TAPE_MOST; i++) {
                code[i] = other.code[i];
            }
        }

        void add(int part) {
            if (size >= 0 && size < TAPE_MOST) {
                code[size] = part;
                size++;
            }
        }

        void stand(int session, int innings, int side) {
            place[SESSION - PLACE] = session;
            place[DAY - PLACE] = session / 3;
            place[INNINGS - PLACE] = innings;
            place[SIDE - PLACE] = side;
        }

        void standSides(int bat, int bowl) {
            place[BAT - PLACE] = bat;
            place[BOWL - PLACE] = bowl;
        }

        void standSky(int cloud, int tide) {
            place[CLOUD - PLACE] = cloud;
            place[TIDE - PLACE] = tide;
        }

        int hardness() {
            int sum = 0;
            int top = 0;
            for (int i = 0; i < size && i < TAPE_MOST; i++) {
                int part = code[i];
                if (part < PLACE + PLACES) {
                    if (top >= 0 && top < STACK) {
                        stack[top] = part < PLACE ? part : placeAt(part - PLACE);
                    }
                    top++;
                } else if (part >= LINE) {
                    top--;
                    sum += stackAt(top) != 0 ? part - LINE : 0;
                } else if (part == NOT) {
                    setStack(top - 1, 1 - stackAt(top - 1));
                } else {
                    top--;
                    setStack(top - 1, joined(part, stackAt(top - 1), stackAt(top)));
                }
            }
            return sum;
        }

        private int joined(int part, int left, int right) {
            switch (part) {
                case AND:
                    return left & right;
                case OR:
                    return left | right;
                case LESS:
                    return left < right ? 1 : 0;
                case MORE:
                    return left > right ? 1 : 0;
                default:
                    return left + right;
            }
        }

        private int placeAt(int index) {
            return index < 0 || index >= PLACES ? 0 : place[index];
        }

        private int stackAt(int index) {
            return index < 0 || index >= STACK ? 0 : stack[index];
        }

        private void setStack(int index, int value) {
            if (index >= 0 && index < STACK) {
                stack[index] = value;
            }
        }
    }

    /** Old matches: who won the toss, who batted first, who won. */
    private static final class Book {
        int size = 0;
        private final int[] cells = new int[BOOKS_MOST * 3];

        void copyFrom(Book other) {
            size = other.size;
            for (int i = 0; i < BOOKS_MOST * 3; i++) {
                cells[i] = other.cells[i];
            }
        }

        void add(int tossed, int batted, int won) {
            if (size >= 0 && size < BOOKS_MOST) {
                cells[size * 3] = tossed;
                cells[size * 3 + 1] = batted;
                cells[size * 3 + 2] = won;
                size++;
            }
        }

        int cell(int row, int column) {
            int index = row * 3 + column;
            return index < 0 || index >= BOOKS_MOST * 3 ? 0 : cells[index];
        }

        int tally(int what) {
            int sum = 0;
            for (int i = 0; i < size; i++) {
                sum += isSo(i, what) ? 1 : 0;
            }
            return sum;
        }

        int longestRun(int what) {
            int most = 0;
            int run = 0;
            for (int i = 0; i < size; i++) {
                run = isSo(i, what) ? run + 1 : 0;
                most = Math.max(most, run);
            }
            return most;
        }

        /** What as book() numbers it. */
        private boolean isSo(int row, int what) {
            int tossed = cell(row, 0);
            int batted = cell(row, 1);
            int won = cell(row, 2);
            switch (what) {
                case 1:
                    return batted == tossed;
                case 2:
                    return batted == tossed && won == tossed;
                case 3:
                    return won == batted;
                case 4:
                    return won == tossed;
                case 5:
                    return won == DRAW;
                default:
                    return true;
            }
        }
    }

    /** A match with its log, and the seed, which an act that is undone brings back as well. */
    private static final class Match {
        int first = NONE;
        int innings = 0;
        int out = 0;
        int played = 0;
        int winner = NONE;
        boolean followed = false;
        boolean fresh = false;
        int seed = 1;
        private int runs0 = 0;
        private int runs1 = 0;
        private final int[] log = new int[SESSIONS_MOST * LOG_WIDTH];

        void copyFrom(Match other) {
            first = other.first;
            innings = other.innings;
            out = other.out;
            played = other.played;
            winner = other.winner;
            followed = other.followed;
            fresh = other.fresh;
            seed = other.seed;
            runs0 = other.runs0;
            runs1 = other.runs1;
            for (int i = 0; i < SESSIONS_MOST * LOG_WIDTH; i++) {
                log[i] = other.log[i];
            }
        }

        void clearMatch() {
            first = NONE;
            innings = 0;
            out = 0;
            played = 0;
            winner = NONE;
            followed = false;
            fresh = false;
            runs0 = 0;
            runs1 = 0;
        }

        void begin(int side) {
            first = side;
            fresh = true;
        }

        boolean isOn() {
            return first != NONE && winner == NONE;
        }

        int runsOf(int side) {
            return side == 0 ? runs0 : runs1;
        }

        int leadOf(int side) {
            return side == 0 ? runs0 - runs1 : runs1 - runs0;
        }

        int kind() {
            return Odds.kindOf(innings, followed);
        }

        /** How many are out, as the odds know it: a fresh innings counts apart. */
        int spot() {
            return fresh ? Odds.FRESH : out;
        }

        /** Who bats, or batted last if the match is over. */
        int batting() {
            return Odds.firstBats(kind()) ? first : 1 - first;
        }

        boolean mayDeclare() {
            return isOn() && !fresh && innings != LAST_INNINGS;
        }

        boolean mayFollow(int margin) {
            return isOn() && innings == 2 && fresh && !followed && leadOf(first) >= margin;
        }

        int drawSlot() {
            seed = 1103515245 * seed + 12345;
            return ((seed >>> 16) & 32767) % SLOTS;
        }

        void playSession(Ground ground, int slot, boolean held) {
            int bats = batting();
            int level = ground.levelOf(played, innings, bats);
            int runs = held ? 0 : ground.runsIn(played, level, slot);
            int outs = ground.outsIn(played, level, slot);
            if (held) {
                outs = Math.max(0, outs - 1);
            }
            if (bats == 0) {
                runs0 += runs;
            } else {
                runs1 += runs;
            }
            out = Math.min(OUT_ALL, out + outs);
            fresh = false;
            setLog(0, innings);
            setLog(1, bats);
            setLog(2, level);
            setLog(3, slot);
            setLog(4, leadOf(bats));
            setLog(5, out);
            setLog(6, runs);
            played++;
            if (out == OUT_ALL && innings != LAST_INNINGS) {
                beginNext();
            }
            judge(ground.sessions);
        }

        void endByDeclaring(int sessions) {
            beginNext();
            judge(sessions);
        }

        private void beginNext() {
            innings++;
            out = 0;
            fresh = true;
        }

        private void judge(int sessions) {
            int bats = batting();
            if (innings == LAST_INNINGS && leadOf(bats) > 0) {
                winner = bats;
            } else if (innings == LAST_INNINGS && out == OUT_ALL) {
                winner = leadOf(bats) == 0 ? DRAW : 1 - bats;
            } else if (played >= sessions) {
                winner = DRAW;
            }
        }

        int logged(int session, int what) {
            int index = session * LOG_WIDTH + what;
            if (session < 0 || session >= played || index < 0 || index >= SESSIONS_MOST * LOG_WIDTH) {
                return WITHOUT;
            }
            return log[index];
        }

        private void setLog(int what, int value) {
            int index = played * LOG_WIDTH + what;
            if (index >= 0 && index < SESSIONS_MOST * LOG_WIDTH) {
                log[index] = value;
            }
        }
    }

    /** The matches as they were ahead of the latest acts. */
    private static final class Past {
        static final int MOST = 12;

        int size = 0;
        private int next = 0;
        private final Match[] matches = new Match[MOST];

        Past() {
            for (int i = 0; i < MOST; i++) {
                matches[i] = new Match();
            }
        }

        void clearAll() {
            size = 0;
        }

        void remember(Match match) {
            Match room = roomAt(next);
            if (room != null) {
                room.copyFrom(match);
                next = (next + 1) % MOST;
                size = Math.min(MOST, size + 1);
            }
        }

        boolean giveBack(Match match) {
            Match room = roomAt((next + MOST - 1) % MOST);
            if (size <= 0 || room == null) {
                return false;
            }
            match.copyFrom(room);
            next = (next + MOST - 1) % MOST;
            size--;
            return true;
        }

        private Match roomAt(int index) {
            return index < 0 || index >= MOST ? null : matches[index];
        }
    }

    /** A text cut into words, numbers and signs, which are taken one behind another. */
    private abstract static class Text {
        private static final int WORD = 0;
        private static final int NUMBER = 1;
        private static final int SIGN = 2;
        private static final int END = 3;

        private final int[] bytes = new int[TAPE_MOST];
        private final int[] kinds = new int[TAPE_MOST + 1];
        private final int[] begins = new int[TAPE_MOST + 1];
        private final int[] ends = new int[TAPE_MOST + 1];
        private int things = 0;
        private int at = 0;
        int wrongAt = NONE;

        abstract void readLine();

        /** How many lines there are; wrongAt tells whether they are right. */
        int readLines(int[] from, int length, int most) {
            cut(from, Math.min(length, Math.min(from.length, TAPE_MOST)));
            at = 0;
            wrongAt = NONE;
            if (isAt(END)) {
                return 0;
            }
            for (int lines = 1; lines <= most; lines++) {
                readLine();
                if (wrongAt != NONE || isAt(END)) {
                    return lines;
                }
                if (!takesSign(';')) {
                    setWrong();
                    return lines;
                }
            }
            setWrong();
            return most;
        }

        private void cut(int[] from, int length) {
            things = 0;
            int begin = 0;
            while (begin < length) {
                bytes[begin] = from[begin];
                int end = begin + 1;
                int kind = kindOf(from[begin]);
                while (kind != SIGN && end < length && kindOf(from[end]) == kind) {
                    bytes[end] = from[end];
                    end++;
                }
                if (from[begin] != ' ') {
                    addThing(kind, begin, end);
                }
                begin = end;
            }
            addThing(END, Math.max(0, length), Math.max(0, length));
        }

        private static int kindOf(int b) {
            if (b >= 'a' && b <= 'z') {
                return WORD;
            }
            return b >= '0' && b <= '9' ? NUMBER : SIGN;
        }

        private void addThing(int kind, int begin, int end) {
            if (things >= 0 && things <= TAPE_MOST) {
                kinds[things] = kind;
                begins[things] = begin;
                ends[things] = end;
                things++;
            }
        }

        /** Once something is wrong, nothing more is found anywhere. */
        private boolean isAt(int kind) {
            return wrongAt == NONE && at >= 0 && at < things && at <= TAPE_MOST && kinds[at] == kind;
        }

        private int byteAt(int index) {
            return index < 0 || index >= TAPE_MOST ? NONE : bytes[index];
        }

        boolean isAtNumber() {
            return isAt(NUMBER);
        }

        /** Only the first wrong thing counts. */
        void setWrong() {
            if (wrongAt == NONE && at >= 0 && at <= TAPE_MOST) {
                wrongAt = begins[at];
            }
        }

        boolean takesSign(char sign) {
            if (!isAt(SIGN) || byteAt(begins[at]) != sign) {
                return false;
            }
            at++;
            return true;
        }

        boolean takesWord(String word) {
            if (!isAt(WORD) || ends[at] - begins[at] != word.length()) {
                return false;
            }
            for (int i = 0; i < word.length(); i++) {
                if (byteAt(begins[at] + i) != word.charAt(i)) {
                    return false;
                }
            }
            at++;
            return true;
        }

        void mustTake(String word) {
            if (!takesWord(word)) {
                setWrong();
            }
        }

        /** A number of at most three digits between two bounds; the lower one, if it is wrong. */
        int number(int least, int most) {
            if (!isAt(NUMBER)) {
                setWrong();
                return least;
            }
            int value = 0;
            for (int i = begins[at]; i < ends[at] && i < begins[at] + 3; i++) {
                value = value * 10 + byteAt(i) - '0';
            }
            if (ends[at] - begins[at] > 3 || value < least || value > most) {
                setWrong();
                return least;
            }
            at++;
            return value;
        }
    }

    /** A text of the ground: its lines are kept till the whole text is known to be right. */
    private static final class GroundText extends Text {
        static final int LINES = 14;
        static final int WIDTH = 5;
        static final int SESSIONS = 0;
        static final int SIDE = 1;
        static final int SLOT = 2;
        static final int CLOUD = 3;
        static final int TIDE = 4;
        static final int RAIN = 5;
        static final int MARGIN = 6;
        static final int DRAWWORTH = 7;
        static final int BOOK = 8;

        private final int[] lines = new int[LINES * WIDTH];
        private int size = 0;
        private int books = 0;
        private boolean aheadOfToss = false;

        /** The first wrong byte, or NONE. */
        int readGround(int[] from, int length, boolean ahead, int booksBefore) {
            size = 0;
            books = booksBefore;
            aheadOfToss = ahead;
            readLines(from, length, LINES);
            return wrongAt;
        }

        void readLine() {
            if (aheadOfToss && takesWord("sessions")) {
                keep(SESSIONS, number(1, SESSIONS_MOST), 0, 0, 0);
            } else if (takesWord("side")) {
                readSide();
            } else if (takesWord("slot")) {
                readSlot();
            } else if (takesWord("cloud")) {
                keep(CLOUD, readBits(), 0, 0, 0);
            } else if (takesWord("tide")) {
                keep(TIDE, readBits(), 0, 0, 0);
            } else if (takesWord("rain")) {
                keep(RAIN, readBits(), 0, 0, 0);
            } else if (takesWord("margin")) {
                keep(MARGIN, number(0, 99), 0, 0, 0);
            } else if (takesWord("drawworth")) {
                keep(DRAWWORTH, number(0, 100), 0, 0, 0);
            } else if (books < BOOKS_MOST && takesWord("book")) {
                readBook();
            } else {
                setWrong();
            }
        }

        private void readSide() {
            int side = number(0, 1);
            mustTake("bat");
            int bat = number(0, 9);
            mustTake("bowl");
            int bowl = number(0, 9);
            keep(SIDE, side, bat, bowl, 0);
        }

        private void readSlot() {
            int level = number(0, LEVELS - 1);
            int slot = number(0, SLOTS - 1);
            mustTake("runs");
            int runs = number(0, 9);
            mustTake("outs");
            int outs = number(0, 9);
            keep(SLOT, level, slot, runs, outs);
        }

        private int readBits() {
            int bits = 1 << number(0, SESSIONS_MOST - 1);
            for (int i = 0; i < TAPE_MOST && isAtNumber(); i++) {
                bits |= 1 << number(0, SESSIONS_MOST - 1);
            }
            return bits;
        }

        private void readBook() {
            int tossed = number(0, 1);
            int batted = number(0, 1);
            int won = number(0, 2);
            books++;
            keep(BOOK, tossed, batted, won, 0);
        }

        private void keep(int kind, int a, int b, int c, int d) {
            int at = size * WIDTH;
            if (at >= 0 && at + WIDTH <= LINES * WIDTH) {
                lines[at] = kind;
                lines[at + 1] = a;
                lines[at + 2] = b;
                lines[at + 3] = c;
                lines[at + 4] = d;
                size++;
            }
        }

        void tell(Ground ground) {
            for (int line = 0; line < size && line < LINES; line++) {
                tellLine(ground, line * WIDTH);
            }
        }

        private void tellLine(Ground ground, int at) {
            if (at < 0 || at + WIDTH > LINES * WIDTH) {
                return;
            }
            int a = lines[at + 1];
            int b = lines[at + 2];
            int c = lines[at + 3];
            switch (lines[at]) {
                case SESSIONS:
                    ground.sessions = a;
                    break;
                case SIDE:
                    ground.setSide(a, b, c);
                    break;
                case SLOT:
                    ground.setSlot(a, b, c, lines[at + 4]);
                    break;
                case CLOUD:
                    ground.cloud |= a;
                    break;
                case TIDE:
                    ground.tide |= a;
                    break;
                case RAIN:
                    ground.rain |= a;
                    break;
                case MARGIN:
                    ground.margin = a;
                    break;
                case DRAWWORTH:
                    ground.drawWorth = a;
                    break;
                default:
                    ground.book.add(a, b, c);
                    break;
            }
        }
    }

    /** A text of the law: what is read is put behind one another as the law is asked. */
    private static final class LawText extends Text {
        static final int LINES = 12;
        static final int DEEP = 6;

        final Law law = new Law();

        /** The first wrong byte, or NONE. */
        int readLaw(int[] from, int length) {
            law.size = 0;
            law.lines = readLines(from, length, LINES);
            return wrongAt;
        }

        void readLine() {
            mustTake("hard");
            int hard = number(0, 9);
            if (takesWord("if")) {
                readAny(0);
            } else {
                law.add(1);
            }
            law.add(Law.LINE + hard);
        }

        private void readAny(int depth) {
            readAll(depth);
            for (int i = 0; i < TAPE_MOST && takesWord("or"); i++) {
                readAll(depth);
                law.add(Law.OR);
            }
        }

        private void readAll(int depth) {
            readAtom(depth);
            for (int i = 0; i < TAPE_MOST && takesWord("and"); i++) {
                readAtom(depth);
                law.add(Law.AND);
            }
        }

        /** At the greatest depth neither a not nor a ( is taken: then it is wrong where a part must stand. */
        private void readAtom(int depth) {
            if (depth < DEEP && takesWord("not")) {
                readAtom(depth + 1);
                law.add(Law.NOT);
            } else if (depth < DEEP && takesSign('(')) {
                readAny(depth + 1);
                if (!takesSign(')')) {
                    setWrong();
                }
            } else if (takesWord("cloud")) {
                law.add(Law.CLOUD);
            } else if (takesWord("tide")) {
                law.add(Law.TIDE);
            } else {
                readSum();
                boolean less = takesSign('<');
                if (!less && !takesSign('>')) {
                    setWrong();
                }
                readSum();
                law.add(less ? Law.LESS : Law.MORE);
            }
        }

        private void readSum() {
            boolean more = true;
            for (int parts = 0; parts < TAPE_MOST && more; parts++) {
                if (isAtNumber()) {
                    law.add(number(0, 999));
                } else if (takesWord("session")) {
                    law.add(Law.SESSION);
                } else if (takesWord("day")) {
                    law.add(Law.DAY);
                } else if (takesWord("innings")) {
                    law.add(Law.INNINGS);
                } else if (takesWord("side")) {
                    law.add(Law.SIDE);
                } else if (takesWord("bat")) {
                    law.add(Law.BAT);
                } else if (takesWord("bowl")) {
                    law.add(Law.BOWL);
                } else {
                    setWrong();
                }
                if (parts > 0) {
                    law.add(Law.PLUS);
                }
                more = takesSign('+');
            }
        }
    }

    /**
     * All ways in which the sessions left can come. Ways are kept in one number: those in which the
     * side that batted first wins in the low bits, those in which the other one does above them; the
     * rest are draws. Leads are those of the side that batted first.
     */
    private static final class Odds {
        /** As how many are out: a fresh innings, in which nobody may declare yet. */
        static final int FRESH = 10;
        private static final int SPOTS = 11;
        /** Innings 0 to 3, and innings 2 and 3 of a side that followed on. */
        private static final int KINDS = 6;
        private static final int FOLLOWED = 2;
        /** A told lead, and nine runs in each of nine sessions. */
        private static final int LEAD_EDGE = 2 * LEAD_MOST;
        private static final int LEADS = 2 * LEAD_EDGE + 1;
        private static final int BITS = 20;
        private static final long LOW = (1L << BITS) - 1;
        private static final long BOTH = (1L << 2 * BITS) - 1;

        /** The ground as it is told, on which the ways are counted. */
        final Ground ground = new Ground();
        /** Each entry bears the mark of the question it answers, so that none must be wiped. */
        private final long[] known = new long[SESSIONS_MOST * KINDS * SPOTS * LEADS];
        private long mark = 0;
        private boolean stale = true;
        private int first = 0;
        private int drawWorth = 0;
        private boolean blindly = false;
        /** Ways of a new match by who bats first, NONE where not yet asked for. */
        private long newWays0 = NONE;
        private long newWays1 = NONE;

        static int kindOf(int innings, boolean followed) {
            return followed && innings >= 2 ? innings + FOLLOWED : innings;
        }

        private static int inningsOf(int kind) {
            return kind > LAST_INNINGS ? kind - FOLLOWED : kind;
        }

        static boolean firstBats(int kind) {
            return kind == 0 || kind == 2 || kind == LAST_INNINGS + FOLLOWED;
        }

        static long waysOf(long ways, boolean ofFirst) {
            return ofFirst ? ways & LOW : (ways >>> BITS) & LOW;
        }

        void forget() {
            stale = true;
            newWays0 = NONE;
            newWays1 = NONE;
        }

        /** What is known stays so as long as the same is asked of the same ground. */
        void ready(int newFirst, int newDrawWorth, boolean newBlindly) {
            if (stale || first != newFirst || drawWorth != newDrawWorth || blindly != newBlindly) {
                mark++;
                stale = false;
                first = newFirst;
                drawWorth = newDrawWorth;
                blindly = newBlindly;
            }
        }

        /** Asked by turns for both sides, so both are kept beside what is known else. */
        long waysOfNew(int batsFirst) {
            long ways = batsFirst == 0 ? newWays0 : newWays1;
            if (ways == NONE) {
                ready(batsFirst, ground.drawWorth, false);
                ways = waysAt(0, 0, FRESH, 0);
                if (batsFirst == 0) {
                    newWays0 = ways;
                } else {
                    newWays1 = ways;
                }
            }
            return ways;
        }

        private long all(int played) {
            int left = ground.sessions - played;
            return left <= 0 ? 1L : 1L << 2 * left;
        }

        long allTo(boolean toFirst, int played) {
            return toFirst ? all(played) : all(played) << BITS;
        }

        private long draws(long ways, int played) {
            return all(played) - waysOf(ways, true) - waysOf(ways, false);
        }

        /** What as here() numbers it. */
        long part(long ways, int played, int what) {
            if (what == 3) {
                return all(played);
            }
            return what == DRAW ? draws(ways, played) : waysOf(ways, what == first);
        }

        long valueOf(long ways, int played, boolean toFirst, int byDrawWorth) {
            return 100 * waysOf(ways, toFirst) + byDrawWorth * draws(ways, played);
        }

        /** Which choice there is beside going on; there is never more than one. */
        int otherChoice(int kind, int spot, int lead) {
            if (inningsOf(kind) == LAST_INNINGS) {
                return HOLD;
            }
            if (spot != FRESH) {
                return DECLARE;
            }
            return kind == 2 && lead >= ground.margin ? FOLLOW_ON : GO_ON;
        }

        /** Whether the other choice is made there. */
        boolean chooses(int played, int kind, int spot, int lead) {
            if (played >= ground.sessions || otherChoice(kind, spot, lead) == GO_ON) {
                return false;
            }
            boolean toFirst = firstBats(kind);
            long going = valueOf(waysGoingOn(played, kind, spot, lead), played, toFirst, drawWorth);
            return valueOf(waysOtherwise(played, kind, spot, lead), played, toFirst, drawWorth) > going;
        }

        /** Likewise, with the lead of the side that bats. */
        boolean choosesTold(int played, int kind, int lead, int out) {
            return chooses(played, kind, out, firstBats(kind) ? lead : -lead);
        }

        // The recursion is of private methods alone; these three lead into it.

        /** Ahead of a session, both captains choosing from now on. */
        long waysFrom(int played, int kind, int spot, int lead) {
            return waysAt(played, kind, spot, lead);
        }

        long waysByChoice(boolean other, int played, int kind, int spot, int lead) {
            return other ? waysOtherwise(played, kind, spot, lead) : waysGoingOn(played, kind, spot, lead);
        }

        long waysBySlot(int played, int kind, int out, int lead, int slot) {
            return waysOfSlot(played, kind, out, lead, slot, false);
        }

        /** Whatever the lead; played goes up with each level of the recursion. */
        private long waysAt(int played, int kind, int spot, int lead) {
            if (played < 0 || played >= ground.sessions) {
                return 0L;
            }
            int place = placeOf(played, kind, spot, lead);
            if (place != NONE && known[place] >>> 2 * BITS == mark) {
                return known[place] & BOTH;
            }
            long ways = waysChosen(played, kind, spot, lead);
            if (place != NONE) {
                known[place] = ways | mark << 2 * BITS;
            }
            return ways;
        }

        private int placeOf(int played, int kind, int spot, int lead) {
            if (played >= SESSIONS_MOST || kind < 0 || kind >= KINDS || spot < 0 || spot >= SPOTS
                    || lead < -LEAD_EDGE || lead > LEAD_EDGE) {
                return NONE;
            }
            int place = ((played * KINDS + kind) * SPOTS + spot) * LEADS + lead + LEAD_EDGE;
            return place < 0 || place >= known.length ? NONE : place;
        }

        private long waysChosen(int played, int kind, int spot, int lead) {
            long going = waysGoingOn(played, kind, spot, lead);
            if (blindly || otherChoice(kind, spot, lead) == GO_ON) {
                return going;
            }
            long turned = waysOtherwise(played, kind, spot, lead);
            boolean toFirst = firstBats(kind);
            long gain = valueOf(turned, played, toFirst, drawWorth) - valueOf(going, played, toFirst, drawWorth);
            return gain > 0 ? turned : going;
        }

        private long waysGoingOn(int played, int kind, int spot, int lead) {
            return waysOfSession(played, kind, spot == FRESH ? 0 : spot, lead, false);
        }

        private long waysOtherwise(int played, int kind, int spot, int lead) {
            switch (otherChoice(kind, spot, lead)) {
                case DECLARE:
                    return waysOfNext(played, kind, lead);
                case FOLLOW_ON:
                    return waysOfSession(played, kind + FOLLOWED, 0, lead, false);
                default:
                    return waysOfSession(played, kind, spot == FRESH ? 0 : spot, lead, true);
            }
        }

        private long waysOfSession(int played, int kind, int out, int lead, boolean held) {
            long sum = 0;
            for (int slot = 0; slot < SLOTS; slot++) {
                sum += waysOfSlot(played, kind, out, lead, slot, held);
            }
            return sum;
        }

        private long waysOfSlot(int played, int kind, int out, int lead, int slot, boolean held) {
            boolean firstBats = firstBats(kind);
            int level = ground.levelOf(played, inningsOf(kind), firstBats ? first : 1 - first);
            int runs = held ? 0 : ground.runsIn(played, level, slot);
            int outs = ground.outsIn(played, level, slot);
            if (held) {
                outs = Math.max(0, outs - 1);
            }
            return waysBehind(played + 1, kind, Math.min(OUT_ALL, out + outs), firstBats ? lead + runs : lead - runs);
        }

        /** Behind a session: is the match over, or does an innings end? */
        private long waysBehind(int played, int kind, int out, int lead) {
            if (inningsOf(kind) != LAST_INNINGS) {
                return out == OUT_ALL ? waysOfNext(played, kind, lead) : waysAt(played, kind, out, lead);
            }
            boolean firstBats = firstBats(kind);
            int ahead = firstBats ? lead : -lead;
            if (ahead > 0) {
                return allTo(firstBats, played);
            }
            if (out == OUT_ALL) {
                return ahead == 0 ? 0L : allTo(!firstBats, played);
            }
            return waysAt(played, kind, out, lead);
        }

        /** The innings behind this one begins. */
        private long waysOfNext(int played, int kind, int lead) {
            int next = kind + 1;
            boolean firstBats = firstBats(next);
            if (inningsOf(next) == LAST_INNINGS && (firstBats ? lead > 0 : lead < 0)) {
                return allTo(firstBats, played);
            }
            return waysAt(played, next, FRESH, lead);
        }
    }

    /** Mornings sorted by one sign, or by two. */
    private static final class Mornings {
        private static final int VALUES = 4;

        private final int[] swung = new int[VALUES * VALUES];
        private final int[] still = new int[VALUES * VALUES];

        /** By one sign alone, if both are the same: then each stands at its value. */
        void sort(int[] bytes, int length, int one, int two) {
            for (int i = 0; i < VALUES * VALUES; i++) {
                swung[i] = 0;
                still[i] = 0;
            }
            for (int at = 0; at + 3 < length && at + 3 < bytes.length; at += 4) {
                int value = signAt(bytes, at, one) + (one == two ? 0 : VALUES * signAt(bytes, at, two));
                if (value >= 0 && value < VALUES * VALUES) {
                    swung[value] += bytes[at + 3] == 1 ? 1 : 0;
                    still[value] += bytes[at + 3] == 1 ? 0 : 1;
                }
            }
        }

        private static int signAt(int[] bytes, int at, int sign) {
            int index = at + sign;
            return index < 0 || index >= bytes.length ? 0 : bytes[index];
        }

        int swungWith(int value) {
            return value < 0 || value >= VALUES * VALUES ? 0 : swung[value];
        }

        int stillWith(int value) {
            return value < 0 || value >= VALUES * VALUES ? 0 : still[value];
        }

        /** How many are told right, if each value tells what it mostly was. */
        int toldRight() {
            int sum = 0;
            for (int i = 0; i < VALUES * VALUES; i++) {
                sum += Math.max(swung[i], still[i]);
            }
            return sum;
        }
    }
}
