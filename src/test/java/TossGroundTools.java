import java.nio.charset.StandardCharsets;
import java.util.Arrays;
import java.util.NoSuchElementException;

/** What the tests that are told by hand share: texts and bytes on the tape, grounds, what a call throws. */
class TossGroundTools {
    interface Call {
        void make();
    }

    static final Class<?> INDEX = IndexOutOfBoundsException.class;
    static final Class<?> ARGUMENT = IllegalArgumentException.class;
    static final Class<?> STATE = IllegalStateException.class;
    static final Class<?> ELEMENT = NoSuchElementException.class;
    static final Class<?> UNSUPPORTED = UnsupportedOperationException.class;

    /** The class of what the call throws, or null. */
    static Class<?> thrownBy(Call call) {
        try {
            call.make();
        } catch (RuntimeException e) {
            return e.getClass();
        }
        return null;
    }

    static TossGround tape(TossGround x, String s) {
        byte[] bytes = Arrays.copyOf(s.getBytes(StandardCharsets.ISO_8859_1), (s.length() + 19) / 20 * 20);
        for (int i = 0; i < bytes.length; i += 20) {
            int[] v = new int[5];
            for (int j = 0; j < 20; j++) v[j / 4] = v[j / 4] << 8 | bytes[i + j] & 255;
            x.feed(v[0], v[1], v[2], v[3], v[4]);
        }
        x.end(s.length());
        return x;
    }

    static TossGround bytes(TossGround x, int... b) {
        StringBuilder s = new StringBuilder();
        for (int n : b) s.append((char) n);
        return tape(x, s.toString());
    }

    static TossGround tell(TossGround x, String... texts) {
        for (String s : texts) tape(x, s).ground();
        return x;
    }

    static TossGround told(String... texts) {
        return tell(new TossGround(), texts);
    }

    static TossGround lawOf(TossGround x, String s) {
        tape(x, s).law();
        return x;
    }

    /** All slots of one level bring the same. */
    static String flat(int level, int runs, int outs) {
        return times("slot " + level + " # runs " + runs + " outs " + outs, 4, ";");
    }

    /** Slot 0: 9 out; slot 1: 9 runs and 9 out; slot 2: nothing; slot 3: 1 run and 1 out. So an innings ends by slots 0, 0 or 3, 0. */
    static TossGround duelGround(int sessions) {
        return told("sessions " + sessions + ";slot 1 0 runs 0 outs 9;slot 1 1 runs 9 outs 9;slot 1 2 runs 0 outs 0;slot 1 3 runs 1 outs 1");
    }

    static TossGround duel(int sessions, int first, int... slots) {
        TossGround x = duelGround(sessions);
        x.toss(first);
        return bring(x, slots);
    }

    static TossGround bring(TossGround x, int... slots) {
        for (int slot : slots) x.bring(slot);
        return x;
    }

    /** The same n times, a # in it being the number of each. */
    static String times(String s, int n, String between) {
        StringBuilder b = new StringBuilder();
        for (int i = 0; i < n; i++) b.append(i == 0 ? "" : between).append(s.replace("#", "" + i));
        return b.toString();
    }

    /** The first wrong byte, -1 of a right text; -5 if one and the other do not go together. */
    static int groundFault(TossGround x, String s) {
        try {
            tape(x, s).ground();
        } catch (IllegalArgumentException e) {
            return x.fault() < 0 ? -5 : x.fault();
        }
        return x.fault() == -1 ? -1 : -5;
    }

    static int lawFault(TossGround x, String s) {
        try {
            tape(x, s).law();
        } catch (IllegalArgumentException e) {
            return x.fault() < 0 ? -5 : x.fault();
        }
        return x.fault() == -1 ? -1 : -5;
    }
}
