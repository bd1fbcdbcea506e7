import java.util.ArrayList;
import java.util.List;
import java.util.Random;

/**
 * Calls at random, of any arguments: none throws, and what was refused or failed changed nothing: a second object that
 * gets only the calls that changed something answers them, and all that is asked at the end, as the first one does.
 */
final class AnyCallsTest {
    private static final Check check = new Check("AnyCallsTest");
    private static final Random random = new Random(512);
    private static final int RUNS = 3000;
    private static final int CALLS = 400;
    private static final int LAST_CHANGING = 17;
    private static final int LAST_CALL = 36;
    private static final int CALL = 16;
    private static final int COPY = 15;
    private static final long[] EDGES = {Integer.MIN_VALUE, Integer.MAX_VALUE, -1, -2, 8, 60, 100, 80, 65536, 1L << 40,
        Long.MIN_VALUE, Long.MAX_VALUE, 0x7f800000L, 0x7fc00000L, 0x7ff0000000000000L, 0x7ff8000000000000L};

    public static void main(String[] args) {
        int worked = 0;
        for (int run = 0; run < RUNS; run++) {
            worked += oneRun();
        }
        check.due("enough calls that ran to their end", worked > RUNS ? 1 : 0, 1);
        check.end();
    }

    private static int types;
    private static int things;
    /** How many PARAMS each MEMBER has; a FIELD -1. */
    private static final List<Integer> params = new ArrayList<>();

    private static int oneRun() {
        ReflectMirror x = new ReflectMirror();
        ReflectMirror y = new ReflectMirror();
        types = 9;
        things = 0;
        params.clear();
        int worked = 0;
        List<long[]> asked = new ArrayList<>();
        for (int i = 0; i < CALLS; i++) {
            long[] call = anyCall(i);
            long got = answer(x, call);
            keep(call, got);
            if (call[0] <= LAST_CHANGING) {
                boolean changed = got >= 0 || (call[0] == CALL && got == -19) || (call[0] == COPY && got == -14);
                if (changed) {
                    check.due("call " + call[0] + " without those refused", answer(y, call), got);
                    worked += call[0] == CALL && got == 1 ? 1 : 0;
                }
            } else {
                asked.add(call);
            }
        }
        for (int i = Math.max(0, asked.size() - 80); i < asked.size(); i++) {
            check.due("call " + asked.get(i)[0] + " at the end", answer(y, asked.get(i)), answer(x, asked.get(i)));
        }
        for (int slot = 0; slot < 8; slot++) {
            check.due("kind(" + slot + ")", y.kind(slot), x.kind(slot));
            check.due("bits(" + slot + ")", y.bits(slot), x.bits(slot));
        }
        for (int what = 0; what <= 5; what++) {
            check.due("count(" + what + ")", y.count(what), x.count(what));
        }
        return worked;
    }

    private static void keep(long[] call, long got) {
        if (call[0] <= 2) {
            types = (int) Math.max(types, got + 1);
        } else if ((call[0] == 4 || call[0] == 5) && got >= 0) {
            params.add(call[0] == 4 ? -1 : (int) call[5]);
        } else if (call[0] == 9 || call[0] == 10) {
            things = (int) Math.max(things, got + 1);
        }
    }

    private static int below(int n) {
        return random.nextInt(Math.max(1, n));
    }

    private static long odd() {
        return EDGES[below(EDGES.length)];
    }

    private static long near(int count) {
        return below(25) == 0 ? odd() : below(count + 1) - below(20) / 19;
    }

    /** Types come first for the most part, then members, then things and calls. */
    private static long[] anyCall(int at) {
        int kind = at < 25 ? below(4) : at < 110 ? 4 + below(5) : below(3) == 0 ? below(LAST_CALL + 1) : 9 + below(9);
        long t = near(types);
        long u = near(types);
        long m = near(params.size());
        long n = near(params.size());
        long thing = below(things + 1) - 1;
        long slot = near(7);
        switch (kind) {
            case 0: return new long[] {kind, below(3) == 0 ? 8 : t, near(3), below(4) / 3};
            case 1: return new long[] {kind, near(3)};
            case 2: return new long[] {kind, t};
            case 3: return new long[] {kind, t, u};
            case 4: return new long[] {kind, t, near(3), below(2) == 0 ? 13 : near(15), u};
            case 5: return new long[] {kind, t, near(3), below(3) > 0 ? 1 + 4 * below(2) : near(31), u - below(2) * 9, below(3) == 0 ? near(3) : below(2),
                below(9), below(9), u};
            case 6: return new long[] {kind, m, near(8), below(2) == 0 ? below(3) : n, near(2)};
            case 7: return new long[] {kind, m, below(2)};
            case 8: return new long[] {kind, t};
            case 9: return new long[] {kind, t};
            case 10: return new long[] {kind, t, near(20)};
            case 11: return new long[] {kind, slot, near(8), below(3) == 0 ? odd() : near(things)};
            case 12: return new long[] {kind, m, thing, near(8), slot};
            case 13: return new long[] {kind, m, thing, slot};
            case 14: return new long[] {kind, thing, near(5), slot, below(2)};
            case 15: return new long[] {kind, thing, near(4), below(things + 1) - 1, near(4), near(4)};
            case 16: return new long[] {kind, m, thing, m >= 0 && m < params.size() ? params.get((int) m) : near(3), slot};
            case 17: return new long[] {kind, thing, near(5), near(8), slot};
            case 24: case 25: return new long[] {kind, m, n};
            case 26: case 27: case 28: return new long[] {kind, t, m, near(2)};
            default: return new long[] {kind, below(2) == 0 ? t : m, below(2) == 0 ? u : near(10), near(2)};
        }
    }

    private static long answer(ReflectMirror x, long[] c) {
        int a = c.length > 1 ? (int) c[1] : 0;
        int b = c.length > 2 ? (int) c[2] : 0;
        int d = c.length > 3 ? (int) c[3] : 0;
        int e = c.length > 4 ? (int) c[4] : 0;
        switch ((int) c[0]) {
            case 0: return x.type(a, b, d == 1);
            case 1: return x.face(a);
            case 2: return x.rows(a);
            case 3: return x.implement(a, b);
            case 4: return x.field(a, b, d, e);
            case 5: return x.method(a, b, d, e, (int) c[5], (int) c[6], (int) c[7], (int) c[8]);
            case 6: return x.body(a, b, d, e);
            case 7: return x.open(a, b == 1);
            case 8: return x.caller(a);
            case 9: return x.object(a);
            case 10: return x.row(a, b);
            case 11: return x.slot(a, b, c[3]);
            case 12: return x.get(a, b, d, e);
            case 13: return x.set(a, b, d);
            case 14: return e == 0 ? x.put(a, b, d) : x.store(a, b, d);
            case COPY: return x.copy(a, b, d, e, (int) c[5]);
            case CALL: return x.call(a, b, d, e);
            case 17: return x.item(a, b, d, e);
            default: return told(x, (int) c[0], a, b, d);
        }
    }

    private static long told(ReflectMirror x, int kind, int a, int b, int d) {
        switch (kind) {
            case 18: return x.about(a, b);
            case 19: return x.ancestor(a, b);
            case 20: return x.is(a, b);
            case 21: return x.meet(a, b);
            case 22: return x.letter(a, b);
            case 23: return x.member(a, b);
            case 24: return x.overrides(a, b);
            case 25: return x.may(a, b);
            case 26: return x.findField(a, b, d);
            case 27: return x.findMethod(a, b, d);
            case 28: return x.inForce(a, b);
            case 29: return x.declared(a, b);
            case 30: return x.thing(a, b);
            case 31: return x.kind(a);
            case 32: return x.bits(a);
            case 33: return x.cause(a);
            case 34: return x.count(a);
            case 35: return x.about(a, 5);
            default: return x.letter(a, -1);
        }
    }
}
