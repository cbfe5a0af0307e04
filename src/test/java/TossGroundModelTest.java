import java.nio.charset.StandardCharsets;
import java.util.ArrayList;
import java.util.Arrays;
import java.util.List;
import java.util.NoSuchElementException;
import java.util.Random;

/**
 * Runs of random calls, each answer held against a plain model of the document: no memory of odds,
 * states that are never changed, texts cut into things first and judged by what may come next.
 */
public final class TossGroundModelTest {
    static int wrong = 0;
    static long calls = 0;

    /** THE MATCH at one time; nothing in it is ever changed. */
    static final class State {
        final int first, innings, out, runs0, runs1, played, winner;
        final boolean followed, fresh;

        State(int first, int innings, int out, int runs0, int runs1, int played, int winner, boolean followed, boolean fresh) {
            this.first = first;
            this.innings = innings;
            this.out = out;
            this.runs0 = runs0;
            this.runs1 = runs1;
            this.played = played;
            this.winner = winner;
            this.followed = followed;
            this.fresh = fresh;
        }

        int bats() {
            int other = 1 - first;
            if (innings == 0) return first;
            if (innings == 1) return other;
            if (innings == 2) return followed ? other : first;
            return followed ? first : other;
        }

        int lead(int side) {
            return side == 0 ? runs0 - runs1 : runs1 - runs0;
        }
    }

    static final State NOTHING = new State(-1, 0, 0, 0, 0, 0, -1, false, false);

    static final class Token {
        final char kind; // w word, n number, s sign, e end
        final String text;
        final int begin;

        Token(char kind, String text, int begin) {
            this.kind = kind;
            this.text = text;
            this.begin = begin;
        }

        boolean is(String s) {
            return kind != 'e' && text.equals(s);
        }

        boolean within(int low, int high) {
            return kind == 'n' && text.length() <= 3 && Integer.parseInt(text) >= low && Integer.parseInt(text) <= high;
        }
    }

    static List<Token> cut(String s) {
        List<Token> list = new ArrayList<>();
        int i = 0;
        while (i < s.length()) {
            char c = s.charAt(i);
            int j = i + 1;
            if (c == ' ') {
                i++;
                continue;
            }
            char kind = 's';
            if (c >= 'a' && c <= 'z') {
                kind = 'w';
                while (j < s.length() && s.charAt(j) >= 'a' && s.charAt(j) <= 'z') j++;
            } else if (c >= '0' && c <= '9') {
                kind = 'n';
                while (j < s.length() && s.charAt(j) >= '0' && s.charAt(j) <= '9') j++;
            }
            list.add(new Token(kind, s.substring(i, j), i));
            i = j;
        }
        list.add(new Token('e', "", s.length()));
        return list;
    }

    /** The first wrong byte of a text of the ground, or -1. */
    static int faultOfGround(String s, boolean aheadOfToss, int books) {
        List<Token> t = cut(s);
        if (t.size() == 1) return -1;
        int i = 0;
        int lines = 0;
        while (true) {
            Token head = t.get(i);
            if (lines == 14) return head.begin;
            Object[] wanted;
            switch (head.kind == 'w' ? head.text : "") {
                case "sessions":
                    if (!aheadOfToss) return head.begin;
                    wanted = new Object[] {1, 9};
                    break;
                case "side":
                    wanted = new Object[] {0, 1, "bat", 0, 9, "bowl", 0, 9};
                    break;
                case "slot":
                    wanted = new Object[] {0, 3, 0, 3, "runs", 0, 9, "outs", 0, 9};
                    break;
                case "cloud":
                case "tide":
                case "rain":
                    wanted = new Object[] {0, 8};
                    break;
                case "margin":
                    wanted = new Object[] {0, 99};
                    break;
                case "drawworth":
                    wanted = new Object[] {0, 100};
                    break;
                case "book":
                    if (books == 60) return head.begin;
                    books++;
                    wanted = new Object[] {0, 1, 0, 1, 0, 2};
                    break;
                default:
                    return head.begin;
            }
            i++;
            for (int w = 0; w < wanted.length; i++) {
                if (wanted[w] instanceof String) {
                    if (!t.get(i).is((String) wanted[w])) return t.get(i).begin;
                    w++;
                } else {
                    if (!t.get(i).within((Integer) wanted[w], (Integer) wanted[w + 1])) return t.get(i).begin;
                    w += 2;
                }
            }
            if (head.is("cloud") || head.is("tide") || head.is("rain")) {
                while (t.get(i).kind == 'n') {
                    if (!t.get(i).within(0, 8)) return t.get(i).begin;
                    i++;
                }
            }
            lines++;
            if (t.get(i).kind == 'e') return -1;
            if (!t.get(i).is(";")) return t.get(i).begin;
            i++;
        }
    }

    static boolean isPlace(Token t) {
        return t.kind == 'w' && Arrays.asList("session", "day", "innings", "side", "bat", "bowl").contains(t.text);
    }

    /** The first wrong byte of a text of the law, or -1: one state after another, open things on a stack. */
    static int faultOfLaw(String s) {
        List<Token> t = cut(s);
        if (t.size() == 1) return -1;
        StringBuilder open = new StringBuilder();
        String state = "line";
        int lines = 0;
        for (Token k : t) {
            boolean atomEnded = false;
            switch (state) {
                case "line":
                    if (lines == 12 || !k.is("hard")) return k.begin;
                    lines++;
                    state = "n";
                    break;
                case "n":
                    if (!k.within(0, 9)) return k.begin;
                    state = "behind n";
                    break;
                case "behind n":
                    if (k.kind == 'e') return -1;
                    if (k.is("if")) state = "atom";
                    else if (k.is(";")) state = "line";
                    else return k.begin;
                    break;
                case "atom":
                    if (k.is("not") || k.is("(")) {
                        if (open.length() == 6) return k.begin;
                        open.append(k.text.charAt(0));
                    } else if (k.is("cloud") || k.is("tide")) {
                        atomEnded = true;
                    } else if (isPlace(k) || k.within(0, 999)) {
                        state = "behind left";
                    } else {
                        return k.begin;
                    }
                    break;
                case "left":
                case "right":
                    if (!isPlace(k) && !k.within(0, 999)) return k.begin;
                    state = "behind " + state;
                    break;
                case "behind left":
                    if (k.is("+")) state = "left";
                    else if (k.is("<") || k.is(">")) state = "right";
                    else return k.begin;
                    break;
                case "behind right":
                    if (k.is("+")) {
                        state = "right";
                        break;
                    }
                    popNots(open);
                    // falls through: the atom has ended
                case "behind atom":
                    if (k.is("and") || k.is("or")) {
                        state = "atom";
                    } else if (k.is(")") && open.length() > 0) {
                        open.setLength(open.length() - 1);
                        atomEnded = true;
                    } else if (open.length() > 0) {
                        return k.begin;
                    } else if (k.kind == 'e') {
                        return -1;
                    } else if (k.is(";")) {
                        state = "line";
                    } else {
                        return k.begin;
                    }
                    break;
                default:
                    throw new RuntimeException(state);
            }
            if (atomEnded) {
                popNots(open);
                state = "behind atom";
            }
        }
        throw new RuntimeException("a text without an end");
    }

    static void popNots(StringBuilder open) {
        while (open.length() > 0 && open.charAt(open.length() - 1) == 'n') open.setLength(open.length() - 1);
    }

    /** Throws of the model: 1 index, 2 argument, 3 state, 4 element, 5 unsupported. */
    static final class Thrown extends RuntimeException {
        private static final long serialVersionUID = 1;
        final int which;

        Thrown(int which) {
            this.which = which;
        }
    }

    static final class Model {
        StringBuilder tape = new StringBuilder();
        int fault = -1;
        int sessions = 6;
        int[] bat = {5, 5};
        int[] bowl = {5, 5};
        int[][] runs = new int[4][4];
        int[][] outs = new int[4][4];
        int cloud, tide, rain;
        int margin = 15;
        int drawWorth = 40;
        int texts = 0;
        List<int[]> books = new ArrayList<>();
        String law = null;
        State state = NOTHING;
        List<int[]> log = new ArrayList<>();
        int seed = 1;
        List<Object[]> past = new ArrayList<>();
        Model image = null;

        Model() {
            for (int l = 0; l < 4; l++) {
                Arrays.fill(runs[l], 3);
                Arrays.fill(outs[l], 2);
            }
        }

        void takeFrom(Model m) {
            sessions = m.sessions;
            bat = m.bat.clone();
            bowl = m.bowl.clone();
            for (int l = 0; l < 4; l++) {
                runs[l] = m.runs[l].clone();
                outs[l] = m.outs[l].clone();
            }
            cloud = m.cloud;
            tide = m.tide;
            rain = m.rain;
            margin = m.margin;
            drawWorth = m.drawWorth;
            texts = m.texts;
            books = new ArrayList<>(m.books);
            law = m.law;
            state = m.state;
            log = new ArrayList<>(m.log);
            seed = m.seed;
        }

        // ---- law

        /** Levels cost most of the time, so they alone are remembered, till a text or going back. */
        int[] levels = null;

        int level(int session, int innings, int side) {
            if (levels == null) {
                levels = new int[72];
                Arrays.fill(levels, -1);
            }
            int at = session * 8 + innings * 2 + side;
            if (levels[at] < 0) levels[at] = levelByLaw(session, innings, side);
            return levels[at];
        }

        int levelByLaw(int session, int innings, int side) {
            if (law == null) return 1;
            int sum = 0;
            for (String line : law.split(";")) {
                if (line.trim().isEmpty()) continue;
                String rest = line.trim().substring(4).trim();
                int n = rest.charAt(0) - '0';
                if (rest.length() > 1 && Character.isDigit(rest.charAt(1))) n = Integer.parseInt(rest.replaceAll("[^0-9].*", ""));
                rest = rest.replaceFirst("^[0-9]+", "").trim();
                if (rest.isEmpty() || any(cut(rest.substring(2)), session, innings, side)) sum += n;
            }
            return Math.min(3, sum);
        }

        List<List<Token>> split(List<Token> t, String... at) {
            List<List<Token>> parts = new ArrayList<>();
            List<Token> now = new ArrayList<>();
            int deep = 0;
            for (Token k : t) {
                if (k.kind == 'e') continue;
                if (k.is("(")) deep++;
                if (k.is(")")) deep--;
                if (deep == 0 && Arrays.asList(at).contains(k.text)) {
                    parts.add(now);
                    now = new ArrayList<>();
                } else {
                    now.add(k);
                }
            }
            parts.add(now);
            return parts;
        }

        boolean any(List<Token> t, int session, int innings, int side) {
            boolean holds = false;
            for (List<Token> all : split(t, "or")) {
                boolean every = true;
                for (List<Token> atom : split(all, "and")) every &= atom(atom, session, innings, side);
                holds |= every;
            }
            return holds;
        }

        boolean atom(List<Token> t, int session, int innings, int side) {
            if (t.get(0).is("not")) return !atom(t.subList(1, t.size()), session, innings, side);
            if (t.get(0).is("(")) return any(t.subList(1, t.size() - 1), session, innings, side);
            if (t.get(0).is("cloud")) return (cloud >> session & 1) == 1;
            if (t.get(0).is("tide")) return (tide >> session & 1) == 1;
            List<List<Token>> two = split(t, "<", ">");
            int left = sum(two.get(0), session, innings, side);
            int right = sum(two.get(1), session, innings, side);
            return t.get(two.get(0).size()).is("<") ? left < right : left > right;
        }

        int sum(List<Token> t, int session, int innings, int side) {
            int sum = 0;
            for (Token k : t) {
                if (k.kind == 'n') sum += Integer.parseInt(k.text);
                else if (k.is("session")) sum += session;
                else if (k.is("day")) sum += session / 3;
                else if (k.is("innings")) sum += innings;
                else if (k.is("side")) sum += side;
                else if (k.is("bat")) sum += bat[side];
                else if (k.is("bowl")) sum += bowl[1 - side];
            }
            return sum;
        }

        // ---- the match

        int[] brings(State s, int slot, boolean held) {
            if ((rain >> s.played & 1) == 1) return new int[] {0, 0};
            int level = level(s.played, s.innings, s.bats());
            return held ? new int[] {0, Math.max(0, outs[level][slot] - 1)} : new int[] {runs[level][slot], outs[level][slot]};
        }

        State played(State s, int slot, boolean held) {
            int[] b = brings(s, slot, held);
            int out = Math.min(10, s.out + b[1]);
            int r0 = s.runs0 + (s.bats() == 0 ? b[0] : 0);
            int r1 = s.runs1 + (s.bats() == 1 ? b[0] : 0);
            State n = new State(s.first, s.innings, out, r0, r1, s.played + 1, -1, s.followed, false);
            if (out == 10 && s.innings < 3) n = new State(s.first, s.innings + 1, 0, r0, r1, s.played + 1, -1, s.followed, true);
            return judged(n);
        }

        State declared(State s) {
            return judged(new State(s.first, s.innings + 1, 0, s.runs0, s.runs1, s.played, -1, s.followed, true));
        }

        State followedOn(State s) {
            return new State(s.first, s.innings, s.out, s.runs0, s.runs1, s.played, -1, true, s.fresh);
        }

        State judged(State s) {
            int winner = -1;
            if (s.innings == 3 && s.lead(s.bats()) > 0) winner = s.bats();
            else if (s.innings == 3 && s.out == 10) winner = s.lead(s.bats()) == 0 ? 2 : 1 - s.bats();
            else if (s.played == sessions) winner = 2;
            return new State(s.first, s.innings, s.out, s.runs0, s.runs1, s.played, winner, s.followed, s.fresh);
        }

        boolean mayDeclare(State s) {
            return s.first >= 0 && s.winner < 0 && !s.fresh && s.innings < 3;
        }

        boolean mayFollow(State s) {
            return s.first >= 0 && s.winner < 0 && s.innings == 2 && s.fresh && !s.followed && s.lead(s.first) >= margin;
        }

        // ---- odds

        long all(State s) {
            long n = 1;
            for (int i = s.played; i < sessions; i++) n *= 4;
            return n;
        }

        long worth(long[] w, int side, int dw) {
            return 100 * w[side] + dw * w[2];
        }

        long[] goOn(State s, boolean held, boolean blind, int dw) {
            long[] w = new long[3];
            for (int slot = 0; slot < 4; slot++) {
                long[] v = odds(played(s, slot, held), blind, dw);
                for (int i = 0; i < 3; i++) w[i] += v[i];
            }
            return w;
        }

        long[] odds(State s, boolean blind, int dw) {
            if (s.winner >= 0 || s.played >= sessions) {
                long[] w = new long[3];
                w[s.winner >= 0 ? s.winner : 2] = all(s);
                return w;
            }
            long[] go = goOn(s, false, blind, dw);
            if (blind) return go;
            long[] turned = go;
            int chooser = s.bats();
            if (mayDeclare(s)) {
                turned = odds(declared(s), false, dw);
            } else if (mayFollow(s)) {
                chooser = s.first;
                turned = odds(followedOn(s), false, dw);
            } else if (s.innings == 3) {
                turned = goOn(s, true, false, dw);
            }
            return worth(turned, chooser, dw) > worth(go, chooser, dw) ? turned : go;
        }

        State told(int played, int innings, boolean followed, int lead, int out) {
            State s = new State(0, innings, out, 0, 0, played, -1, followed && innings >= 2, false);
            return new State(0, innings, out, s.bats() == 0 ? lead : 0, s.bats() == 1 ? lead : 0, played, -1, s.followed, false);
        }

        boolean declares(State s, int dw) {
            if (s.innings == 3 || s.played == sessions) return false;
            return worth(odds(declared(s), false, dw), s.bats(), dw) > worth(goOn(s, false, false, dw), s.bats(), dw);
        }

        boolean holds(State s) {
            if (s.played == sessions) return false;
            return worth(goOn(s, true, false, drawWorth), s.bats(), drawWorth) > worth(goOn(s, false, false, drawWorth), s.bats(), drawWorth);
        }

        long[] tossOdds(int first) {
            return odds(new State(first, 0, 0, 0, 0, 0, -1, false, true), false, drawWorth);
        }

        long batsFirst(int side) {
            return worth(tossOdds(side), side, drawWorth);
        }

        long fields(int side) {
            return worth(tossOdds(1 - side), side, drawWorth);
        }

        long left(int side) {
            return batsFirst(1 - side) >= fields(1 - side) ? fields(side) : batsFirst(side);
        }

        // ---- calls

        void need(boolean holds, int which) {
            if (!holds) throw new Thrown(which);
        }

        void act() {
            past.add(new Object[] {state, new ArrayList<>(log), seed});
            if (past.size() > 12) past.remove(0);
        }

        void session(int slot, boolean held) {
            State s = state;
            int[] b = brings(s, slot, held);
            State n = played(s, slot, held);
            log.add(new int[] {s.innings, s.bats(), level(s.played, s.innings, s.bats()), slot, n.lead(s.bats()), Math.min(10, s.out + b[1]), b[0]});
            state = n;
        }

        String useTape() {
            String s = tape.toString();
            tape.setLength(0);
            return s;
        }

        int ground() {
            String s = useTape();
            fault = faultOfGround(s, state.first < 0, books.size());
            need(fault < 0, 2);
            need(texts < 12, 5);
            for (String line : s.split(";")) {
                List<Token> t = cut(line);
                if (t.size() == 1) continue;
                List<Integer> n = new ArrayList<>();
                for (Token k : t) if (k.kind == 'n') n.add(Integer.parseInt(k.text));
                switch (t.get(0).text) {
                    case "sessions": sessions = n.get(0); break;
                    case "side": bat[n.get(0)] = n.get(1); bowl[n.get(0)] = n.get(2); break;
                    case "slot": runs[n.get(0)][n.get(1)] = n.get(2); outs[n.get(0)][n.get(1)] = n.get(3); break;
                    case "cloud": for (int k : n) cloud |= 1 << k; break;
                    case "tide": for (int k : n) tide |= 1 << k; break;
                    case "rain": for (int k : n) rain |= 1 << k; break;
                    case "margin": margin = n.get(0); break;
                    case "drawworth": drawWorth = n.get(0); break;
                    default: books.add(new int[] {n.get(0), n.get(1), n.get(2)});
                }
            }
            texts++;
            past.clear();
            levels = null;
            return texts;
        }

        int law() {
            String s = useTape();
            fault = faultOfLaw(s);
            need(fault < 0, 2);
            law = s;
            past.clear();
            levels = null;
            return lawLines();
        }

        int lawLines() {
            if (law == null) return -1;
            if (law.trim().isEmpty()) return 0;
            return law.split(";").length;
        }

        long match(int what) {
            State s = state;
            boolean on = s.first >= 0 && s.winner < 0;
            need(what >= 0 && what <= 10, 4);
            return new long[] {s.first, s.innings, s.out, s.runs0, s.runs1, on ? s.bats() : -1, s.played, s.followed ? 1 : 0,
                s.winner, mayFollow(s) ? 1 : 0, s.fresh ? 1 : 0}[what];
        }

        int bookCount(int what) {
            int n = 0;
            for (int[] b : books) {
                boolean[] is = {true, b[0] == b[1], b[0] == b[1] && b[2] == b[0], b[2] == b[1], b[2] == b[0], b[2] == 2};
                if (is[what]) n++;
            }
            return n;
        }

        int streak(int what) {
            int most = 0;
            for (int i = 0; i < books.size(); i++) {
                for (int j = i; j < books.size(); j++) {
                    int[] b = books.get(j);
                    if (b[2] != (what == 0 ? b[1] : what == 1 ? b[0] : 2)) break;
                    most = Math.max(most, j - i + 1);
                }
            }
            return most;
        }

        long cost(int choice) {
            need(choice >= 0 && choice <= 3, 2);
            State s = state;
            need(s.first >= 0 && s.winner < 0, 3);
            long[][] ways = new long[4][];
            ways[0] = goOn(s, false, false, drawWorth);
            if (mayDeclare(s)) ways[1] = odds(declared(s), false, drawWorth);
            if (mayFollow(s)) ways[2] = odds(followedOn(s), false, drawWorth);
            if (s.innings == 3) ways[3] = goOn(s, true, false, drawWorth);
            need(ways[choice] != null, 3);
            int chooser = mayFollow(s) ? s.first : s.bats();
            long best = Long.MIN_VALUE;
            for (long[] w : ways) if (w != null) best = Math.max(best, worth(w, chooser, drawWorth));
            return best - worth(ways[choice], chooser, drawWorth);
        }

        int[][] mornings(String s) {
            need(s.length() % 4 == 0, 2);
            int[][] m = new int[s.length() / 4][4];
            for (int i = 0; i < s.length(); i++) {
                need(s.charAt(i) <= (i % 4 == 3 ? 1 : 3), 2);
                m[i / 4][i % 4] = s.charAt(i);
            }
            return m;
        }

        int right(int[][] m, int one, int two) {
            int sum = 0;
            for (int a = 0; a < 4; a++) {
                for (int b = 0; b < 4; b++) {
                    int yes = 0;
                    int no = 0;
                    for (int[] r : m) {
                        if (r[one] == a && r[two] == b) {
                            if (r[3] == 1) yes++;
                            else no++;
                        }
                    }
                    sum += Math.max(yes, no);
                }
            }
            return sum;
        }

        void stateIs(int played, int innings, int lead, int out) {
            need(played >= 0 && played <= sessions && innings >= 0 && innings <= 3, 1);
            need(lead >= -81 && lead <= 81 && out >= 0 && out <= 9, 2);
        }

        long answer(String name, int[] a, boolean b, boolean b2) {
            boolean on = state.first >= 0 && state.winner < 0;
            switch (name) {
                case "fault": return fault;
                case "ground": return ground();
                case "law": return law();
                case "side": need(a[0] == 0 || a[0] == 1, 1); return b ? bowl[a[0]] : bat[a[0]];
                case "slot": need(a[0] >= 0 && a[0] < 4 && a[1] >= 0 && a[1] < 4, 1); return b ? outs[a[0]][a[1]] : runs[a[0]][a[1]];
                case "session":
                    need(a[0] >= 0 && a[0] < sessions, 1);
                    need(a[1] >= 0 && a[1] < 4, 4);
                    return new int[] {a[0] / 3, cloud >> a[0] & 1, tide >> a[0] & 1, rain >> a[0] & 1}[a[1]];
                case "level":
                    need(a[0] >= 0 && a[0] < sessions && a[1] >= 0 && a[1] < 4 && a[2] >= 0 && a[2] < 2, 1);
                    return level(a[0], a[1], a[2]);
                case "match": return match(a[0]);
                case "toss":
                    need(a[0] == 0 || a[0] == 1, 1);
                    need(state.first < 0, 3);
                    act();
                    state = new State(a[0], 0, 0, 0, 0, 0, -1, false, true);
                    return level(0, 0, a[0]);
                case "play": {
                    need(on, 3);
                    act();
                    seed = 1103515245 * seed + 12345;
                    int slot = (seed >> 16 & 0x7fff) % 4;
                    session(slot, false);
                    return slot;
                }
                case "bring":
                case "hold": {
                    boolean held = name.equals("hold");
                    need(a[0] >= 0 && a[0] < 4, 1);
                    need(on && (!held || state.innings == 3), 3);
                    act();
                    int bats = state.bats();
                    session(a[0], held);
                    return state.lead(bats);
                }
                case "declare": {
                    need(mayDeclare(state), 3);
                    act();
                    int bats = state.bats();
                    state = declared(state);
                    return state.lead(bats);
                }
                case "follow":
                    need(mayFollow(state), 3);
                    act();
                    state = followedOn(state);
                    return state.lead(state.first);
                case "anew": {
                    act();
                    int n = state.played;
                    state = NOTHING;
                    log.clear();
                    return n;
                }
                case "here":
                case "blind": {
                    need(state.first >= 0, 3);
                    need(a[0] >= 0 && a[0] < 4, 4);
                    return a[0] == 3 ? all(state) : odds(state, name.equals("blind"), drawWorth)[a[0]];
                }
                case "worth":
                    need(a[0] == 0 || a[0] == 1, 1);
                    need(a[1] >= 0 && a[1] < 4, 4);
                    if (a[1] == 0) return batsFirst(a[0]);
                    if (a[1] == 1) return fields(a[0]);
                    if (a[1] == 2) return Math.max(batsFirst(a[0]), fields(a[0])) - Math.min(batsFirst(a[0]), fields(a[0]));
                    return left(a[0]);
                case "evens": need(a[0] == 0 || a[0] == 1, 1); return Math.max(batsFirst(a[0]), fields(a[0])) + left(a[0]);
                case "well": {
                    int n = 0;
                    long[] d = {batsFirst(0) - fields(0), batsFirst(1) - fields(1)};
                    for (int[] k : books) if (d[k[0]] == 0 || (k[1] == k[0] ? d[k[0]] > 0 : d[k[0]] < 0)) n++;
                    return n;
                }
                case "after":
                    need(a[0] >= 0 && a[0] < 4, 1);
                    need(on, 3);
                    need(a[1] >= 0 && a[1] < 4, 4);
                    return a[1] == 3 ? all(state) / 4 : odds(played(state, a[0], false), false, drawWorth)[a[1]];
                case "turning": {
                    need(on, 3);
                    int found = 0;
                    long[] v = new long[4];
                    for (int k = 0; k < 4; k++) v[k] = worth(odds(played(state, k, false), false, drawWorth), state.bats(), drawWorth);
                    for (int k = 1; k < 4; k++) if (b ? v[k] < v[found] : v[k] > v[found]) found = k;
                    return found;
                }
                case "wins": {
                    stateIs(a[0], a[1], a[2], a[3]);
                    need(a[4] >= 0 && a[4] < 3, 4);
                    State s = told(a[0], a[1], b, a[2], a[3]);
                    long[] w = odds(s, false, drawWorth);
                    return a[4] == 2 ? w[2] : a[4] == 0 ? w[s.bats()] : w[1 - s.bats()];
                }
                case "declares": stateIs(a[0], a[1], a[2], a[3]); return declares(told(a[0], a[1], b, a[2], a[3]), drawWorth) ? 1 : 0;
                case "when":
                    stateIs(a[0], 0, 0, a[1]);
                    for (int l = -81; l <= 81; l++) if (declares(told(a[0], 2, false, l, a[1]), drawWorth)) return l;
                    return -99;
                case "enforces": {
                    stateIs(a[0], 0, a[1], 0);
                    if (a[0] == sessions) return 0;
                    State s = new State(0, 2, 0, a[1], 0, a[0], -1, false, true);
                    if (!mayFollow(s)) return 0;
                    return worth(odds(followedOn(s), false, drawWorth), 0, drawWorth) > worth(goOn(s, false, false, drawWorth), 0, drawWorth) ? 1 : 0;
                }
                case "chased": {
                    stateIs(a[0], 0, 0, 0);
                    int most = -1;
                    for (int r = 0; r <= 81; r++) {
                        long[] w = odds(told(a[0], 3, false, -r, 0), false, drawWorth);
                        if (w[1] >= w[0]) most = r;
                    }
                    return most;
                }
                case "holds": stateIs(a[0], 0, a[1], a[2]); return holds(told(a[0], 3, b, a[1], a[2])) ? 1 : 0;
                case "turnover": {
                    stateIs(a[0], 0, 0, a[1]);
                    int most = -1;
                    for (int r = 0; r <= 81; r++) if (!holds(told(a[0], 3, false, -r, a[1]))) most = r;
                    return most;
                }
                case "line": {
                    stateIs(a[0], a[1], a[2], a[3]);
                    State s = told(a[0], a[1], b, a[2], a[3]);
                    if (!declares(s, 0)) return -1;
                    for (int d = 0; d <= 100; d++) if (!declares(s, d)) return d;
                    return -1;
                }
                case "cost": return cost(a[0]);
                case "swing": {
                    String t = useTape();
                    need(on, 3);
                    need(t.length() == sessions - state.played, 2);
                    for (char c : t.toCharArray()) need(c < 4, 2);
                    State s = state;
                    for (int i = 0; i < t.length() && s.winner < 0; i++) s = played(s, t.charAt(i), false);
                    return s.winner;
                }
                case "book": need(a[0] >= 0 && a[0] < 6, 4); return bookCount(a[0]);
                case "share":
                    need(a[0] >= 0 && a[0] < 6 && a[1] >= 0 && a[1] < 6, 4);
                    return bookCount(a[1]) == 0 ? 0 : 10000 * bookCount(a[0]) / bookCount(a[1]);
                case "habit": {
                    if (!b) return bookCount(0) > 0 && bookCount(1) >= 0.9 * bookCount(0) - 1e-9 ? 1 : 0;
                    int won = 0;
                    int lost = 0;
                    for (int[] k : books) {
                        if (k[2] == k[1]) won++;
                        if (k[2] == 1 - k[1]) lost++;
                    }
                    return won == lost ? 1 : 0;
                }
                case "signs": {
                    int[][] m = mornings(useTape());
                    need(a[0] >= 0 && a[0] < 3 && a[1] >= 0 && a[1] < 4, 2);
                    int n = 0;
                    for (int[] r : m) if (r[a[0]] == a[1] && (!b || r[3] == 1)) n++;
                    return n;
                }
                case "best": {
                    int[][] m = mornings(useTape());
                    int[] n = b ? new int[] {right(m, 0, 1), right(m, 0, 2), right(m, 1, 2)}
                        : new int[] {right(m, 0, 0), right(m, 1, 1), right(m, 2, 2)};
                    int found = n[1] > n[0] ? 1 : 0;
                    if (n[2] > n[found]) found = 2;
                    return b2 ? n[found] : found;
                }
                case "target": {
                    need(on && state.innings == 3, 3);
                    int runsLeft = 1 - state.lead(state.bats());
                    int left = sessions - state.played;
                    return b ? runsLeft / left + (runsLeft % left > 0 ? 1 : 0) : runsLeft;
                }
                case "streak": need(a[0] >= 0 && a[0] < 3, 4); return streak(a[0]);
                case "table": {
                    need(a[0] >= 0 && a[0] < sessions && a[1] >= 0 && a[1] < 4 && a[2] >= 0 && a[2] < 2, 1);
                    if ((rain >> a[0] & 1) == 1) return 0;
                    int n = 0;
                    for (int k : (b ? outs : runs)[level(a[0], a[1], a[2])]) n += k;
                    return n;
                }
                case "form": {
                    need(a[0] == 0 || a[0] == 1, 1);
                    need(a[1] >= 0 && a[1] < 3, 2);
                    int n = 0;
                    for (int i = 0; i < log.size(); i++) if (i / 3 == a[1] && log.get(i)[1] == a[0]) n += log.get(i)[6];
                    return n;
                }
                case "hardest": {
                    need(a[0] >= 0 && a[0] < 4 && a[1] >= 0 && a[1] < 2, 1);
                    for (int l = 3; l >= 0; l--) for (int i = 0; i < sessions; i++) if (level(i, a[0], a[1]) == l) return i;
                    return -1;
                }
                case "log": need(a[1] >= 0 && a[1] < 7, 4); return a[0] < 0 || a[0] >= log.size() ? -99 : log.get(a[0])[a[1]];
                case "seed": {
                    int n = seed;
                    seed = a[0];
                    return n;
                }
                case "undo": {
                    if (past.isEmpty()) return 0;
                    Object[] p = past.remove(past.size() - 1);
                    state = (State) p[0];
                    log = new ArrayList<>();
                    for (Object row : (List<?>) p[1]) log.add((int[]) row);
                    seed = (Integer) p[2];
                    return 1;
                }
                case "image":
                    image = new Model();
                    image.takeFrom(this);
                    return 0;
                case "back":
                    if (image == null) return 0;
                    takeFrom(image);
                    past.clear();
                    levels = null;
                    return 1;
                case "count":
                    if (a[0] < 0 || a[0] > 10) return -1;
                    return new int[] {sessions, margin, drawWorth, texts, lawLines(), books.size(), cloud, tide, rain,
                        sessions - state.played, past.size()}[a[0]];
                default: throw new RuntimeException(name);
            }
        }
    }

    static long real(TossGround x, String name, int[] a, boolean b, boolean b2) {
        switch (name) {
            case "fault": return x.fault();
            case "ground": return x.ground();
            case "law": return x.law();
            case "side": return x.side(a[0], b);
            case "slot": return x.slot(a[0], a[1], b);
            case "session": return x.session(a[0], a[1]);
            case "level": return x.level(a[0], a[1], a[2]);
            case "match": return x.match(a[0]);
            case "toss": return x.toss(a[0]);
            case "play": return x.play();
            case "bring": return x.bring(a[0]);
            case "hold": return x.hold(a[0]);
            case "declare": return x.declare();
            case "follow": return x.follow();
            case "anew": return x.anew();
            case "here": return x.here(a[0]);
            case "blind": return x.blind(a[0]);
            case "worth": return x.worth(a[0], a[1]);
            case "evens": return x.evens(a[0]);
            case "well": return x.well();
            case "after": return x.after(a[0], a[1]);
            case "turning": return x.turning(b);
            case "wins": return x.wins(a[0], a[1], b, a[2], a[3], a[4]);
            case "declares": return x.declares(a[0], a[1], b, a[2], a[3]) ? 1 : 0;
            case "when": return x.when(a[0], a[1]);
            case "enforces": return x.enforces(a[0], a[1]) ? 1 : 0;
            case "chased": return x.chased(a[0]);
            case "holds": return x.holds(a[0], b, a[1], a[2]) ? 1 : 0;
            case "turnover": return x.turnover(a[0], a[1]);
            case "line": return x.line(a[0], a[1], b, a[2], a[3]);
            case "cost": return x.cost(a[0]);
            case "swing": return x.swing();
            case "book": return x.book(a[0]);
            case "share": return x.share(a[0], a[1]);
            case "habit": return x.habit(b) ? 1 : 0;
            case "signs": return x.signs(a[0], a[1], b);
            case "best": return x.best(b, b2);
            case "target": return x.target(b);
            case "streak": return x.streak(a[0]);
            case "table": return x.table(a[0], a[1], a[2], b);
            case "form": return x.form(a[0], a[1]);
            case "hardest": return x.hardest(a[0], a[1]);
            case "log": return x.log(a[0], a[1]);
            case "seed": return x.seed(a[0]);
            case "undo": return x.undo() ? 1 : 0;
            case "image": x.image(); return 0;
            case "back": return x.back() ? 1 : 0;
            case "count": return x.count(a[0]);
            default: throw new RuntimeException(name);
        }
    }

    static int thrownNumber(RuntimeException e) {
        Class<?>[] known = {IndexOutOfBoundsException.class, IllegalArgumentException.class, IllegalStateException.class,
            NoSuchElementException.class, UnsupportedOperationException.class};
        for (int i = 0; i < known.length; i++) if (e.getClass() == known[i]) return i + 1;
        return 99;
    }

    // ---- what is called

    static final class Run {
        final Random random;
        final TossGround x = new TossGround();
        final Model m = new Model();
        final StringBuilder told = new StringBuilder();
        final int most;

        Run(long seed, int most) {
            random = new Random(seed);
            this.most = most;
        }

        int below(int n) {
            return random.nextInt(n);
        }

        /** Mostly within 0 to n - 1, now and then beside it. */
        int near(int n) {
            if (below(40) == 0) return below(3) == 0 ? (random.nextBoolean() ? Integer.MAX_VALUE : Integer.MIN_VALUE) : below(2) == 0 ? -1 : n;
            return below(n);
        }

        void compare(String name, int[] a, boolean b, boolean b2) {
            calls++;
            long want = 0;
            int wantThrown = 0;
            long got = 0;
            int gotThrown = 0;
            try {
                want = m.answer(name, a, b, b2);
            } catch (Thrown t) {
                wantThrown = t.which;
            }
            RuntimeException seen = null;
            try {
                got = real(x, name, a, b, b2);
            } catch (RuntimeException e) {
                seen = e;
                gotThrown = thrownNumber(e);
            }
            told.append(name).append(Arrays.toString(a)).append(b).append(b2).append(" -> ").append(got).append('\n');
            if (want != got || wantThrown != gotThrown) {
                wrong++;
                if (wrong < 4) {
                    System.out.println(told + "due is " + want + " thrown " + wantThrown + ", got " + got + " thrown " + gotThrown + " " + seen);
                }
            }
        }

        void feed(String s) {
            byte[] bytes = Arrays.copyOf(s.getBytes(StandardCharsets.ISO_8859_1), (s.length() + 19) / 20 * 20);
            told.append("tape \"").append(s).append("\"\n");
            int room = m.tape.length();
            for (int i = 0; i < bytes.length; i += 20) {
                int[] v = new int[5];
                for (int j = 0; j < 20; j++) v[j / 4] = v[j / 4] << 8 | bytes[i + j] & 255;
                int n = x.feed(v[0], v[1], v[2], v[3], v[4]);
                if (m.tape.length() + 20 > 400) {
                    if (n != -1) wrong++;
                } else {
                    for (int j = 0; j < 20; j++) m.tape.append((char) (bytes[i + j] & 255));
                    if (n != m.tape.length()) wrong++;
                }
            }
            int n = room + s.length();
            boolean want = n >= 0 && n <= m.tape.length();
            if (want) m.tape.setLength(n);
            if (x.end(n) != want) wrong++;
        }

        String gap() {
            return below(4) == 0 ? below(2) == 0 ? "" : "  " : " ";
        }

        String join(Object... parts) {
            StringBuilder s = new StringBuilder();
            for (int i = 0; i < parts.length; i++) {
                boolean digits = i > 0 && parts[i] instanceof Integer && parts[i - 1] instanceof Integer;
                if (i > 0) s.append(digits ? " " : gap());
                s.append(parts[i]);
            }
            return s.toString();
        }

        String groundLine() {
            switch (below(12)) {
                case 0: return join("sessions", 1 + below(most));
                case 1: return join("side", below(2), "bat", below(10), "bowl", below(10));
                case 2: return join("cloud", below(9), below(9));
                case 3: return join("tide", below(9));
                case 4: return below(3) == 0 ? join("rain", below(9)) : join("tide", below(9), below(9), below(9));
                case 5: return join("margin", below(3) == 0 ? below(100) : below(8));
                case 6: return join("drawworth", below(101));
                case 7:
                case 8: return join("book", below(2), below(2), below(3));
                default: return join("slot", below(4), below(4), "runs", below(10), "outs", below(10));
            }
        }

        String groundText() {
            StringBuilder s = new StringBuilder(gap());
            int n = below(20) == 0 ? 14 + below(3) : 1 + below(6);
            for (int i = 0; i < n; i++) s.append(i == 0 ? "" : ";" + gap()).append(groundLine());
            return s.append(gap()).toString();
        }

        String part() {
            return below(3) == 0 ? "" + below(11) : new String[] {"session", "day", "innings", "side", "bat", "bowl"}[below(6)];
        }

        String sum() {
            return below(3) == 0 ? join(part(), "+", part()) : part();
        }

        String atom(int deep) {
            switch (below(deep > 6 ? 3 : 6)) {
                case 0: return "cloud";
                case 1: return "tide";
                case 2: return join(sum(), below(2) == 0 ? "<" : ">", sum());
                case 3: return "not " + atom(deep + 1);
                default: return join("(", any(deep + 1), ")");
            }
        }

        String any(int deep) {
            String s = atom(deep);
            int more = below(3);
            for (int i = 0; i < more; i++) s += (below(2) == 0 ? " and " : " or ") + atom(deep);
            return s;
        }

        String lawText() {
            StringBuilder s = new StringBuilder();
            int n = below(25) == 0 ? 11 + below(3) : 1 + below(4);
            for (int i = 0; i < n; i++) {
                s.append(i == 0 ? "" : gap() + ";").append(join("hard", below(3)));
                if (below(4) > 0) s.append(" if ").append(any(n > 6 ? 6 : 0));
            }
            return s.toString();
        }

        /** Something wrong, or something that only looks so. */
        String spoilt(String s) {
            if (s.isEmpty()) return " ";
            int at = below(s.length());
            String[] bits = {" ", ";", "(", ")", "<", ">", "+", "0", "7", "10", "0003", "a", "not", "and", "hard", "book", "if", "" + (char) 255, "" + (char) 0, "A"};
            switch (below(4)) {
                case 0: return s.substring(0, at);
                case 1: return s.substring(0, at) + s.substring(at + 1);
                case 2: return s.substring(0, at) + bits[below(bits.length)] + s.substring(at);
                default: return s.substring(0, at) + bits[below(bits.length)] + s.substring(at + 1);
            }
        }

        void text() {
            boolean law = below(3) == 0;
            String s = law ? lawText() : groundText();
            for (int i = 0; below(3) == 0 && i < 2; i++) s = spoilt(s);
            if (s.length() > 380) s = s.substring(0, 380);
            if (m.tape.length() > 0) feedNothing();
            feed(s);
            compare(law ? "law" : "ground", null, false, false);
            compare("fault", null, false, false);
        }

        void feedNothing() {
            m.tape.setLength(0);
            if (!x.end(0)) wrong++;
        }

        void mornings(boolean best) {
            feedNothing();
            StringBuilder s = new StringBuilder();
            int n = below(12) + (below(8) == 0 ? 60 : 0);
            for (int i = 0; i < n; i++) {
                for (int j = 0; j < 3; j++) s.append((char) near3());
                s.append((char) (below(60) == 0 ? 2 : below(2)));
            }
            if (below(25) == 0) s.append((char) 0);
            feed(s.toString());
            if (best) compare("best", null, random.nextBoolean(), random.nextBoolean());
            else compare("signs", new int[] {near(3), near(4)}, random.nextBoolean(), false);
        }

        int near3() {
            return below(300) == 0 ? 4 : below(4);
        }

        void swing() {
            feedNothing();
            StringBuilder s = new StringBuilder();
            int n = Math.max(0, m.sessions - m.state.played) + (below(12) == 0 ? 1 : 0);
            for (int i = 0; i < n; i++) s.append((char) (below(40) == 0 ? 4 : below(4)));
            feed(s.toString());
            compare("swing", null, false, false);
        }

        int lead() {
            return below(60) == 0 ? (below(2) == 0 ? -82 : 82) : below(6) == 0 ? below(163) - 81 : below(41) - 20;
        }

        int playedSome() {
            int last = Math.max(0, m.sessions - 4);
            return below(50) == 0 ? m.sessions + 1 : below(50) == 0 ? -1 : last + below(m.sessions - last + 1);
        }

        void query() {
            boolean b = random.nextBoolean();
            switch (below(31)) {
                case 0: compare("side", new int[] {near(2)}, b, false); break;
                case 1: compare("slot", new int[] {near(4), near(4)}, b, false); break;
                case 2: compare("session", new int[] {near(m.sessions), near(4)}, b, false); break;
                case 3: compare("level", new int[] {near(m.sessions), near(4), near(2)}, b, false); break;
                case 4: compare("here", new int[] {near(4)}, b, false); break;
                case 5: compare("blind", new int[] {near(4)}, b, false); break;
                case 6: compare("worth", new int[] {near(2), near(4)}, b, false); break;
                case 7: compare("evens", new int[] {near(2)}, b, false); break;
                case 8: compare("well", null, b, false); break;
                case 9: compare("after", new int[] {near(4), near(4)}, b, false); break;
                case 10: compare("turning", null, b, false); break;
                case 11: compare("wins", new int[] {playedSome(), near(4), lead(), near(10), near(3)}, b, false); break;
                case 12: compare("declares", new int[] {playedSome(), near(4), lead(), near(10)}, b, false); break;
                case 13: compare("when", new int[] {playedSome(), near(10)}, b, false); break;
                case 14: compare("enforces", new int[] {playedSome(), lead()}, b, false); break;
                case 15: compare("chased", new int[] {playedSome()}, b, false); break;
                case 16: compare("holds", new int[] {playedSome(), lead(), near(10)}, b, false); break;
                case 17: compare("turnover", new int[] {playedSome(), near(10)}, b, false); break;
                case 18: compare("line", new int[] {playedSome(), near(4), lead(), near(10)}, b, false); break;
                case 19: compare("cost", new int[] {near(4)}, b, false); break;
                case 20: swing(); break;
                case 21: compare("book", new int[] {near(6)}, b, false); break;
                case 22: compare("share", new int[] {near(6), near(6)}, b, false); break;
                case 23: compare("habit", null, b, false); break;
                case 24: mornings(b); break;
                case 25: compare("target", null, b, false); break;
                case 26: compare("streak", new int[] {near(3)}, b, false); break;
                case 27: compare("table", new int[] {near(m.sessions), near(4), near(2)}, b, false); break;
                case 28: compare("form", new int[] {near(2), near(3)}, b, false); break;
                case 29: compare("hardest", new int[] {near(4), near(2)}, b, false); break;
                default: compare("log", new int[] {near(9), near(7)}, b, false); break;
            }
        }

        void act() {
            switch (below(16)) {
                case 0: compare("anew", null, false, false); compare("toss", new int[] {below(2)}, false, false); break;
                case 1:
                case 2: compare("toss", new int[] {near(2)}, false, false); break;
                case 3:
                case 4: compare("play", null, false, false); break;
                case 5:
                case 6: compare("hold", new int[] {near(4)}, false, false); break;
                case 7:
                case 8: compare("declare", null, false, false); break;
                case 9:
                case 10: compare("follow", null, false, false); break;
                case 11: compare("undo", null, false, false); break;
                case 12: compare(below(3) == 0 ? "image" : "back", null, false, false); break;
                case 13: compare("seed", new int[] {random.nextInt()}, false, false); break;
                default: compare("bring", new int[] {near(4)}, false, false); break;
            }
            if (m.state.first < 0 && below(2) == 0) compare("toss", new int[] {below(2)}, false, false);
            if (m.state.winner >= 0 && below(3) > 0) compare("anew", null, false, false);
            compare("count", new int[] {near(11)}, false, false);
            compare("match", new int[] {near(11)}, false, false);
        }

        /** A ground on which innings are short, so that matches come to their end by all ways. */
        void wildGround() {
            int least = below(3) * 3;
            for (int level = 0; level < 4; level++) {
                StringBuilder s = new StringBuilder();
                for (int slot = 0; slot < 4; slot++) {
                    s.append(slot == 0 ? "" : ";").append(join("slot", level, slot, "runs", below(10), "outs", least + below(10 - least)));
                }
                feed(s.toString());
                compare("ground", null, false, false);
            }
            feed(join("margin", below(8), ";", "drawworth", below(4) == 0 ? below(101) : 20 + below(60), ";", "side", below(2), "bat", below(10), "bowl", below(10)));
            compare("ground", null, false, false);
            feed(lawText());
            if (m.tape.length() < 400) compare("law", null, false, false);
        }

        /** Acts that lead towards the last innings. */
        void onwards() {
            if (m.state.first < 0) compare("toss", new int[] {below(2)}, false, false);
            int n = 1 + below(4);
            for (int i = 0; i < n; i++) {
                if (m.mayFollow(m.state) && below(2) == 0) compare("follow", null, false, false);
                else if (m.mayDeclare(m.state) && below(2) == 0) compare("declare", null, false, false);
                else if (m.state.innings == 3 && below(2) == 0) compare("hold", new int[] {below(4)}, false, false);
                else compare("bring", new int[] {below(4)}, false, false);
            }
            compare("here", new int[] {below(3)}, false, false);
            compare("after", new int[] {below(4), below(3)}, false, false);
            compare("cost", new int[] {below(4)}, false, false);
            compare("turning", null, random.nextBoolean(), false);
            compare("target", null, random.nextBoolean(), false);
            compare("blind", new int[] {below(3)}, false, false);
            if (below(2) == 0) swing();
            if (m.state.winner >= 0) compare("anew", null, false, false);
        }

        void all(int steps, boolean wild) {
            if (wild) wildGround();
            for (int i = 0; i < steps; i++) {
                int k = below(12);
                if (wild && k < 2) onwards();
                else if (wild ? below(60) == 0 : k == 0 || i < 4 && k < 8) text();
                else if (k < 7) act();
                else query();
            }
            for (int i = 0; i < 11; i++) {
                compare("count", new int[] {i}, false, false);
                compare("match", new int[] {i}, false, false);
            }
        }
    }

    public static void main(String[] args) {
        int runs = args.length > 0 ? Integer.parseInt(args[0]) : 1500;
        long from = args.length > 1 ? Long.parseLong(args[1]) : 1;
        for (int run = 0; run < runs; run++) {
            boolean wild = run % 3 > 0;
            Run r = new Run(from + run, wild ? 4 + run % 3 : 2 + run % 4);
            // six sessions at first would be slow without a memory of odds
            r.feed("sessions " + (r.most - r.below(2)));
            r.compare("ground", null, false, false);
            r.all(60, wild);
        }
        System.out.println(wrong == 0 ? "all " + calls + " answers are the model's" : wrong + " answers are not the model's");
        if (wrong != 0) System.exit(1);
    }
}
