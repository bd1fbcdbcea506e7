import java.util.ArrayDeque;
import java.util.ArrayList;
import java.util.Deque;
import java.util.List;
import java.util.Random;
import java.util.function.Predicate;

/** Makes up the calls of a run: types first, then members and bodies, then things and what is done with them. */
final class Guesses {
    private static final int[] ODD = {Integer.MIN_VALUE, Integer.MAX_VALUE, -1, -2, -3, 8, 9, 19, 20, 21, 60, 80, 100, 3, 4};
    private static final long[] BITS = {0, 1, 2, 3, -1, -2, 127, 128, -128, -129, 32767, 32768, -32768, -32769, 65535, 65536,
        Integer.MAX_VALUE, Integer.MIN_VALUE, 1L + Integer.MAX_VALUE, Integer.MIN_VALUE - 1L, 16777217, 16777219, -16777217,
        9007199254740993L, 9007199254740995L, Long.MAX_VALUE, Long.MIN_VALUE, 0x7f800001L, 0x7fc00000L, 0xffc00000,
        0x7ff0000000000001L, 0x7ff8000000000000L, 0xfff8000000000000L};
    private static final long[] FLOATS = {0, 1, 0x80000000, 0x80000001, 0x007fffff, 0x00800000, 0x3f800000, 0xbf800000,
        0x3f800001, 0x33800000, 0x34000000, 0x7f7fffff, 0xff7fffff, 0x73000000, 0x7f800000, 0xff800000};
    private static final long[] DOUBLES = {0, 1, Long.MIN_VALUE, Long.MIN_VALUE + 1, 0x000fffffffffffffL, 0x0010000000000000L,
        0x3ff0000000000000L, 0xbff0000000000000L, 0x3ff0000000000001L, 0x3ca0000000000000L, 0x3cb0000000000000L,
        0x7fefffffffffffffL, 0xffefffffffffffffL, 0x7c90000000000000L, 0x7ff0000000000000L, 0xfff0000000000000L};
    private static final int[] BODY_KINDS = {5, 5, 5, 5, 5, 5, 5, 7, 7, 1, 2, 3, 6, 8};
    private static final int[] FACE_MARKS = {1, 17, 17, 1, 2, 5};
    private static final int[] CLASS_MARKS = {1, 3, 0, 1, 17, 16, 5, 2};
    private final Retold told;
    private final Random random;
    private final int lastOfTypes;
    private final int lastOfMembers;
    private final int lastOfThings;
    /** One in so many numbers is any number. */
    private final int oddness;
    /** More of these, the more FACES. */
    private final int faceShare;
    private final int[][] signatures;
    private final Deque<Object[]> planned = new ArrayDeque<>();

    /** Of ten runs one goes on to 60 TYPES, one to 100 MEMBERS, one to 80 THINGS. */
    Guesses(Retold told, int run) {
        this.told = told;
        random = new Random(run);
        lastOfTypes = run % 10 == 0 ? 150 : 4 + any(40);
        lastOfMembers = lastOfTypes + (run % 10 == 1 ? 350 : 40 + any(120));
        lastOfThings = lastOfMembers + (run % 10 == 2 ? 150 : 4 + any(20));
        oddness = 8 + any(40);
        faceShare = 1 + any(4);
        signatures = new int[2 + any(7)][];
        for (int i = 0; i < signatures.length; i++) {
            signatures[i] = run % 2 == 0 ? anySignature() : signatureAbove(i);
        }
    }

    /** The name, the RESULT, how many PARAMS, three of them. */
    private int[] anySignature() {
        return new int[] {any(3), any(10) - 1, any(4), any(12), any(12), any(12)};
    }

    /** The RESULT widens from one to the next, the PARAMS the other way: each may mostly call those ahead of it. */
    private int[] signatureAbove(int i) {
        int[] s = {i, oneIn(8) ? -1 : Math.min(7, 4 + any(2)), any(4), 7, 6, oneIn(2) ? 8 : 5};
        if (i > 0) {
            int[] below = signatures[i - 1];
            s[1] = oneIn(8) ? -1 : Math.min(7, Math.max(4, below[1]) + any(2));
            s[2] = Math.min(3, below[2] + any(2));
            s[3] = Math.max(2, below[3] - any(2));
            s[4] = Math.max(2, below[4] - any(2));
            s[5] = below[5];
        }
        return s;
    }

    private int any(int below) {
        return random.nextInt(below);
    }

    private boolean oneIn(int n) {
        return any(n) == 0;
    }

    /** Mostly a number below, now and then the first that is not, or any number. */
    private int near(int below) {
        if (below > 0 && !oneIn(oddness)) {
            return any(below);
        }
        return oneIn(2) ? below : ODD[any(ODD.length)];
    }

    private int type() {
        return near(told.types.size());
    }

    private int reference() {
        return oneIn(oddness) ? type() : 8 + any(told.types.size() - 8);
    }

    private int thing() {
        return oneIn(12) ? -1 : near(told.things.size());
    }

    private int slot() {
        return near(8);
    }

    private <T> T pick(List<T> all, Predicate<T> wanted) {
        List<T> those = new ArrayList<>();
        for (T one : all) {
            if (wanted.test(one)) {
                those.add(one);
            }
        }
        return those.isEmpty() ? null : those.get(any(those.size()));
    }

    private int typeSuchAs(Predicate<Retold.Type> wanted) {
        Retold.Type t = oneIn(oddness) ? null : pick(told.types, wanted);
        return t == null ? type() : t.number;
    }

    private int memberSuchAs(Predicate<Retold.Member> wanted) {
        Retold.Member m = oneIn(oddness) ? null : pick(told.members, wanted);
        return m == null ? near(told.members.size()) : m.number;
    }

    private int method() {
        return memberSuchAs(m -> !m.isField());
    }

    private int field() {
        return memberSuchAs(Retold.Member::isField);
    }

    Object[] next(int at) {
        if (!planned.isEmpty()) {
            return planned.poll();
        }
        if (oneIn(5)) {
            return question();
        }
        if (at < lastOfTypes) {
            return typeCall();
        }
        if (at < lastOfMembers) {
            return oneIn(12) ? typeCall() : memberCall();
        }
        if (at < lastOfThings) {
            return oneIn(12) ? memberCall() : thingCall();
        }
        return oneIn(25) ? typeCall() : oneIn(15) ? memberCall() : oneIn(15) ? thingCall() : valueCall();
    }

    private static Object[] call(Object... words) {
        return words;
    }

    private Object[] typeCall() {
        if (any(6) < faceShare) {
            return oneIn(3) ? call("face", near(oneIn(4) ? 4 : 2)) : implementCall();
        }
        return oneIn(4) ? call("rows", type()) : call("type", typeSuchAs(Retold.Type::isClass), near(oneIn(4) ? 4 : 2), oneIn(3));
    }

    private Object[] implementCall() {
        int face = typeSuchAs(t -> t.sort == Retold.Sort.FACE);
        return call("implement", typeSuchAs(t -> t.number > face && t.sort != Retold.Sort.ROWS), face);
    }

    private Object[] memberCall() {
        int t = typeSuchAs(one -> one.number > 8 && one.sort != Retold.Sort.ROWS);
        boolean isFace = t >= 0 && t < told.types.size() && told.types.get(t).sort == Retold.Sort.FACE;
        switch (any(9)) {
            case 0: case 1: return call("field", t, near(oneIn(3) ? 20 : 3), isFace && !oneIn(8) ? 13 : near(16), type());
            case 2: case 3: case 4: return methodCall(t, isFace);
            case 5: return oneIn(2) ? call("open", near(told.members.size()), oneIn(2)) : call("caller", reference());
            default: return bodyCall();
        }
    }

    private Object[] methodCall(int t, boolean isFace) {
        int[] s = signatures[any(signatures.length)];
        int marks = oneIn(4) ? near(32) : isFace ? FACE_MARKS[any(FACE_MARKS.length)] : CLASS_MARKS[any(CLASS_MARKS.length)];
        if (oneIn(4)) {
            return call("method", t, near(20), marks, type(), near(4), type(), type(), type());
        }
        if (oneIn(4)) {
            return oneIn(2) ? sumCall(t) : itemCall(t);
        }
        return call("method", t, s[0], marks, s[1], s[2], s[3], s[4], s[5]);
    }

    /** A METHOD that adds, its BODY, and a sum of both PARAMS, if all is taken. */
    private Object[] sumCall(int t) {
        int most = 4 + any(4);
        int a = oneIn(3) ? most : 1 + any(most);
        int b = oneIn(3) ? most : 1 + any(most);
        int m = told.members.size();
        planned.add(call("body", m, 6, any(2), any(2)));
        long first = bitsFor(a);
        planned.add(call("slot", 0, a, first));
        planned.add(call("slot", 1, b, a == b && oneIn(3) ? opposite(a, first) : bitsFor(b)));
        planned.add(call("call", m, -1, 2, 2));
        planned.add(call("bits", 2));
        planned.add(call("cause", 0));
        return call("method", t, any(20), oneIn(3) ? 1 : 5, oneIn(3) ? 7 : most, 2, a, b, 0);
    }

    private static long opposite(int as, long bits) {
        return as == 6 ? (int) bits ^ Integer.MIN_VALUE : as == 7 ? bits ^ Long.MIN_VALUE : -bits;
    }

    private Object[] itemCall(int t) {
        int rows = typeSuchAs(one -> one.sort == Retold.Sort.ROWS);
        int items = rows < 0 || rows >= told.types.size() ? -1 : told.about(rows, 2);
        planned.add(call("body", told.members.size(), 8, 1, 0));
        return call("method", t, any(20), oneIn(2) ? 5 : 1, oneIn(3) ? type() : items, 2, 1 + any(4), rows, 0);
    }

    private Object[] bodyCall() {
        int m = memberSuchAs(one -> !one.isField() && !one.isAbstract() && (one.body == null || oneIn(oddness)));
        for (int tries = 0; tries < 30; tries++) {
            int kind = oneIn(60) ? 4 : BODY_KINDS[any(BODY_KINDS.length)];
            int x = kind == 2 || kind == 3 ? field() : kind == 5 ? method() : kind == 4 ? near(10) : near(3);
            int y = near(3);
            // Mostly one of a lower name, or all would go round.
            boolean goesRound = kind == 5 && nameOf(x) >= nameOf(m);
            if ((told.couldBe(m, kind, x, y) && (!goesRound || oneIn(20))) || oneIn(2 * oddness)) {
                return call("body", m, kind, x, y);
            }
        }
        return oneIn(3) ? call("body", m, near(9), near(3), near(3)) : question();
    }

    private int nameOf(int m) {
        return m < 0 || m >= told.members.size() ? 0 : told.members.get(m).name;
    }

    private Object[] thingCall() {
        switch (any(4)) {
            case 0: return call("row", typeSuchAs(t -> t.sort == Retold.Sort.ROWS), oneIn(10) ? near(25) - 2 : near(6));
            default: return call("object", typeSuchAs(t -> t.sort == Retold.Sort.CLASS || (t.isClass() && oneIn(20))));
        }
    }

    private Object[] valueCall() {
        switch (any(12)) {
            case 0: return slotCall(slot(), near(9));
            case 1: case 2: return fieldCall();
            case 3: return call("item", rowThing(), near(6), near(9), slot());
            case 4: return call("put", rowThing(), near(6), slot());
            case 5: return call("store", rowThing(), near(6), slot());
            case 6: return call("copy", rowThing(), near(5), rowThing(), near(5), near(5));
            case 7: return oneIn(2) ? call("open", near(told.members.size()), oneIn(2)) : call("caller", reference());
            case 8: return rowCall();
            default: return callCall();
        }
    }

    private int rowThing() {
        Retold.Thing t = oneIn(oddness) ? null : pick(told.things, one -> one.items != null);
        return t == null ? thing() : t.number;
    }

    private int thingFor(int member) {
        if (oneIn(8) || member < 0 || member >= told.members.size()) {
            return thing();
        }
        Retold.Type d = told.members.get(member).type;
        Retold.Thing t = pick(told.things, one -> told.is(one.type.number, d.number) == 1);
        return t == null ? thing() : t.number;
    }

    private long bitsFor(int as) {
        long bits = oneIn(3) ? BITS[any(BITS.length)] : oneIn(3) ? any(6) : random.nextLong() >> any(64);
        if (oneIn(oddness)) {
            return bits;
        }
        switch (as) {
            case 0: return bits & 1;
            case 1: return bits & 65535;
            case 2: return (byte) bits;
            case 3: return (short) bits;
            case 4: return (int) bits;
            case 6: return oneIn(2) ? FLOATS[any(FLOATS.length)] : Float.floatToRawIntBits((float) spread(40));
            case 7: return oneIn(2) ? DOUBLES[any(DOUBLES.length)] : Double.doubleToRawLongBits(spread(100));
            case 8: return any(told.things.size() + 1) - (oneIn(10) ? 0 : 1);
            default: return bits;
        }
    }

    private double spread(int most) {
        return random.nextGaussian() * Math.pow(2, any(2 * most) - most);
    }

    private Object[] slotCall(int slot, int as) {
        return call("slot", slot, as, bitsFor(as));
    }

    /** A VALUE that mostly GOES INTO the type. */
    private Object[] slotCallFor(int slot, Retold.Type t) {
        if (!t.isReference()) {
            int as = t.number;
            for (int tries = 0; tries < 3; tries++) {
                int other = any(8);
                as = told.is(other, t.number) == 1 ? other : as;
            }
            return slotCall(slot, as);
        }
        Retold.Thing one = oneIn(6) ? null : pick(told.things, each -> told.is(each.type.number, t.number) == 1);
        return call("slot", slot, 8, one == null ? -1 : one.number);
    }

    private Object[] fieldCall() {
        int f = field();
        int thing = thingFor(f);
        boolean isField = f >= 0 && f < told.members.size() && told.members.get(f).isField();
        if (!isField || oneIn(6)) {
            return oneIn(2) ? call("get", f, thing, near(9), slot()) : call("set", f, thing, slot());
        }
        Retold.Type of = told.members.get(f).of;
        if (oneIn(3)) {
            planned.add(call("open", f, true));
        }
        if (oneIn(2)) {
            int slot = any(8);
            planned.add(slotCallFor(slot, of));
            planned.add(call("set", f, thing, slot));
        }
        int into = any(8);
        planned.add(call("get", f, thing, of.isReference() ? 8 : oneIn(2) ? of.number : any(8), into));
        planned.add(call("kind", into));
        planned.add(call("bits", into));
        return planned.poll();
    }

    private Object[] rowCall() {
        Retold.Thing row = pick(told.things, one -> one.items != null && one.items.length > 0);
        if (row == null) {
            return call("item", thing(), near(3), near(9), slot());
        }
        int i = any(row.items.length);
        int slot = any(8);
        Retold.Type of = row.type.items;
        planned.add(slotCallFor(slot, of));
        planned.add(call(of.isReference() && oneIn(2) ? "store" : "put", row.number, i, slot));
        planned.add(call("item", row.number, i, of.isReference() ? 8 : oneIn(2) ? of.number : any(8), slot));
        planned.add(call("bits", slot));
        return planned.poll();
    }

    private Object[] callCall() {
        int m = memberSuchAs(one -> !one.isField() && (one.isStatic() || told.about(one.type.number, 6) == 1));
        int thing = thingFor(m);
        int into = slot();
        if (m < 0 || m >= told.members.size() || told.members.get(m).isField()) {
            return call("call", m, thing, near(4), into);
        }
        Retold.Member one = told.members.get(m);
        int n = oneIn(oddness) ? near(4) : one.params.size();
        if (oneIn(2)) {
            planned.add(call("open", m, true));
        }
        for (int i = 0; i < one.params.size(); i++) {
            if (!oneIn(10)) {
                planned.add(slotCallFor(i, one.params.get(i)));
            }
        }
        planned.add(call("call", m, thing, n, into));
        planned.add(call("kind", into));
        planned.add(call("bits", into));
        for (int what = 0; what < 3; what++) {
            planned.add(call("cause", what));
        }
        planned.add(call("count", 3));
        return planned.poll();
    }

    private Object[] question() {
        int t = type();
        switch (any(18)) {
            case 0: return call("about", t, near(10));
            case 1: return call("ancestor", reference(), near(8));
            case 2: return call("is", oneIn(2) ? t : reference(), oneIn(2) ? type() : reference());
            case 3: return call("meet", reference(), reference());
            case 4: return call("letter", t, near(6) - any(2));
            case 5: return call("member", near(told.members.size()), near(11));
            case 6: return call("declared", reference(), near(5));
            case 7: return call("findField", reference(), near(4), near(3));
            case 8: case 9: return call("findMethod", reference(), method(), near(3));
            case 10: return call("overrides", oneIn(3) ? field() : method(), oneIn(3) ? field() : method());
            case 11: case 12: return forceCall();
            case 13: return mayCall();
            case 14: return call("thing", thing(), near(2));
            case 15: return call("kind", slot());
            case 16: return call("bits", slot());
            default: return oneIn(3) ? call("cause", near(3)) : call("count", near(6));
        }
    }

    private Object[] forceCall() {
        int m = method();
        int d = m >= 0 && m < told.members.size() ? told.members.get(m).type.number : 8;
        return call("inForce", typeSuchAs(t -> t.isClass() && told.is(t.number, d) == 1), m);
    }

    private Object[] mayCall() {
        int m = near(told.members.size());
        return call("may", m, thingFor(m));
    }
}
