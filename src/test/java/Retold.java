import java.util.ArrayList;
import java.util.Arrays;
import java.util.HashMap;
import java.util.LinkedHashSet;
import java.util.List;
import java.util.Map;
import java.util.Set;

/**
 * The document told a second time, from its first line, in Java that keeps to no LANGUAGE.md: VALUES are Java's own,
 * terms are recursions as they are worded, what is refused or FAILS is thrown. It knows nothing of the class; RetoldTest
 * holds the one against the other.
 */
final class Retold {
    private static final int BAD = -1, NO = -2, FULL = -3, NONE = -1;
    private static final int BOOLEAN = 0, CHAR = 1, BYTE = 2, SHORT = 3, INT = 4, LONG = 5, FLOAT = 6, DOUBLE = 7, REFERENCE = 8;
    private static final int NULL = 1, ARGUMENT = 2, INDEX = 3, STORE = 4, SIZE = 5, ACCESS = 6, ABSTRACT = 7, CAST = 8,
        CAUSE = 9, DEEP = 10;

    /** A call that is refused or FAILS, by what it answers. */
    static final class Answered extends RuntimeException {
        private static final long serialVersionUID = 1;
        final int answer;

        Answered(int answer) {
            super(null, null, false, false);
            this.answer = answer;
        }
    }

    /** A METHOD that FAILS: by what, which one, within how many others. */
    private static final class Ended extends RuntimeException {
        private static final long serialVersionUID = 1;
        final int[] cause;

        Ended(int by, int method, int within) {
            super(null, null, false, false);
            cause = new int[] {by, method, within};
        }
    }

    enum Sort { PRIMITIVE, CLASS, ABSTRACT, FACE, ROWS }

    static final class Type {
        int number;
        Sort sort;
        Type parent;
        Type items;
        int pack;
        final List<Type> faces = new ArrayList<>();

        boolean isReference() {
            return sort != Sort.PRIMITIVE;
        }

        boolean isClass() {
            return sort == Sort.CLASS || sort == Sort.ABSTRACT;
        }

        int kind() {
            return isReference() ? REFERENCE : number;
        }
    }

    /** A VALUE as Java has it: a Boolean, Character, Byte, .. Double by the kind; of a REFERENCE a Thing or null. */
    record Value(int kind, Object it) { }

    static final class Member {
        int number;
        Type type;
        int name;
        int marks;
        Type of;
        /** Null: a FIELD. */
        List<Type> params;
        boolean opened;
        int[] body;
        Member above;
        Value shared;

        boolean isField() {
            return params == null;
        }

        int who() {
            return marks % 4;
        }

        boolean isPrivate() {
            return who() == 2;
        }

        boolean isStatic() {
            return marks / 4 % 2 == 1;
        }

        boolean isFinal() {
            return marks / 8 % 2 == 1;
        }

        boolean isAbstract() {
            return marks / 16 % 2 == 1;
        }
    }

    static final class Thing {
        int number;
        Type type;
        /** Of an OBJECT. */
        Map<Member, Value> fields;
        /** Of ROWS. */
        Value[] items;
    }

    final List<Type> types = new ArrayList<>();
    final List<Member> members = new ArrayList<>();
    final List<Thing> things = new ArrayList<>();
    private final Value[] slots = new Value[8];
    private Type caller;
    private int[] cause = {0, 0, 0};
    private int begun;
    private int endedCalls;

    Retold() {
        for (int i = 0; i < 8; i++) {
            newType(Sort.PRIMITIVE, 0);
        }
        caller = newType(Sort.CLASS, 0);
        Arrays.fill(slots, new Value(INT, 0));
    }

    // ---- what is refused, what FAILS

    private static void refuse(int answer, boolean when) {
        if (when) {
            throw new Answered(answer);
        }
    }

    private static void bad(boolean when) {
        refuse(BAD, when);
    }

    private static void fails(int by, boolean when) {
        refuse(-10 - by, when);
    }

    private static <T> T at(List<T> all, int i, int orElse) {
        refuse(orElse, i < 0 || i >= all.size());
        return all.get(i);
    }

    private Type typeAt(int i) {
        return at(types, i, BAD);
    }

    private Member fieldAt(int i) {
        Member m = at(members, i, BAD);
        bad(!m.isField());
        return m;
    }

    private Member methodAt(int i, int orElse) {
        Member m = at(members, i, orElse);
        refuse(orElse, m.isField());
        return m;
    }

    /** Null: NOTHING. */
    private Thing thingAt(int i) {
        return i == NONE ? null : at(things, i, BAD);
    }

    private static void slotAt(int i) {
        bad(i < 0 || i > 7);
    }

    private static void kindOf(int as) {
        bad(as < 0 || as > 8);
    }

    private static void packAt(int pack) {
        bad(pack < 0 || pack > 3);
    }

    // ---- 1 TYPES

    private Type newType(Sort sort, int pack) {
        refuse(FULL, types.size() == 60);
        Type t = new Type();
        t.number = types.size();
        t.sort = sort;
        t.pack = pack;
        types.add(t);
        return t;
    }

    private Type root() {
        return types.get(8);
    }

    private boolean isA(Type a, Type b) {
        if (a == b || (b == root() && a.isReference())) {
            return true;
        }
        if (a.parent != null && isA(a.parent, b)) {
            return true;
        }
        for (Type face : a.faces) {
            if (isA(face, b)) {
                return true;
            }
        }
        return ofReferences(a) && ofReferences(b) && isA(a.items, b.items);
    }

    private static boolean ofReferences(Type t) {
        return t.sort == Sort.ROWS && t.items.isReference();
    }

    private Set<Type> ancestors(Type t) {
        Set<Type> all = new LinkedHashSet<>();
        if (!t.isReference()) {
            return all;
        }
        all.add(t);
        if (t.sort == Sort.FACE) {
            for (Type face : t.faces) {
                Set<Type> those = ancestors(face);
                those.remove(root());
                all.addAll(those);
            }
            all.add(root());
            return all;
        }
        if (t.sort == Sort.ROWS) {
            all.add(root());
        } else if (t.parent != null) {
            all.addAll(ancestors(t.parent));
        }
        for (Type face : t.faces) {
            all.addAll(ancestors(face));
        }
        return all;
    }

    private static boolean widens(int from, int to) {
        if (from == to) {
            return true;
        }
        switch (from) {
            case BYTE: return widens(SHORT, to);
            case CHAR: case SHORT: return widens(INT, to);
            case INT: return widens(LONG, to);
            case LONG: return widens(FLOAT, to);
            case FLOAT: return widens(DOUBLE, to);
            default: return false;
        }
    }

    private static Value widened(Value v, int to) {
        if (v.kind == to) {
            return v;
        }
        if (v.it instanceof Float f) {
            return new Value(to, (double) f);
        }
        long whole = v.it instanceof Character c ? c : ((Number) v.it).longValue();
        switch (to) {
            case SHORT: return new Value(to, (short) whole);
            case INT: return new Value(to, (int) whole);
            case LONG: return new Value(to, whole);
            case FLOAT: return new Value(to, (float) whole);
            default: return new Value(to, (double) whole);
        }
    }

    private static Value first(Type t) {
        switch (t.kind()) {
            case BOOLEAN: return new Value(BOOLEAN, false);
            case CHAR: return new Value(CHAR, '\0');
            case BYTE: return new Value(BYTE, (byte) 0);
            case SHORT: return new Value(SHORT, (short) 0);
            case INT: return new Value(INT, 0);
            case LONG: return new Value(LONG, 0L);
            case FLOAT: return new Value(FLOAT, 0.0f);
            case DOUBLE: return new Value(DOUBLE, 0.0);
            default: return new Value(REFERENCE, null);
        }
    }

    private Value fit(int as, long bits) {
        switch (as) {
            case BOOLEAN: bad(bits != 0 && bits != 1); return new Value(as, bits == 1);
            case CHAR: bad(bits < 0 || bits > 65535); return new Value(as, (char) bits);
            case BYTE: bad(bits < -128 || bits > 127); return new Value(as, (byte) bits);
            case SHORT: bad(bits < -32768 || bits > 32767); return new Value(as, (short) bits);
            case INT: bad(bits < Integer.MIN_VALUE || bits > Integer.MAX_VALUE); return new Value(as, (int) bits);
            case LONG: return new Value(as, bits);
            case FLOAT:
                bad(bits < Integer.MIN_VALUE || bits > Integer.MAX_VALUE || Float.isNaN(Float.intBitsToFloat((int) bits)));
                return new Value(as, Float.intBitsToFloat((int) bits));
            case DOUBLE: bad(Double.isNaN(Double.longBitsToDouble(bits))); return new Value(as, Double.longBitsToDouble(bits));
            default: bad(bits < -1 || bits >= things.size()); return new Value(as, bits == -1 ? null : things.get((int) bits));
        }
    }

    private static long bitsOf(Value v) {
        switch (v.kind) {
            case BOOLEAN: return (Boolean) v.it ? 1 : 0;
            case CHAR: return (Character) v.it;
            case FLOAT: return Float.floatToRawIntBits((Float) v.it);
            case DOUBLE: return Double.doubleToRawLongBits((Double) v.it);
            case REFERENCE: return v.it == null ? -1 : ((Thing) v.it).number;
            default: return ((Number) v.it).longValue();
        }
    }

    private static String nameOf(Type t) {
        if (t.sort == Sort.PRIMITIVE) {
            return "Z C B S I J F D".split(" ")[t.number];
        }
        return t.sort == Sort.ROWS ? "[" + nameOf(t.items) : "L" + t.number + ";";
    }

    private static int numberOf(Type t) {
        return t == null ? NONE : t.number;
    }

    int type(int parent, int pack, boolean isAbstract) {
        Type p = typeAt(parent);
        bad(!p.isClass());
        packAt(pack);
        Type t = newType(isAbstract ? Sort.ABSTRACT : Sort.CLASS, pack);
        t.parent = p;
        return t.number;
    }

    int face(int pack) {
        packAt(pack);
        return newType(Sort.FACE, pack).number;
    }

    int rows(int of) {
        Type items = typeAt(of);
        for (Type t : types) {
            if (t.items == items) {
                return t.number;
            }
        }
        Type made = newType(Sort.ROWS, items.isReference() ? items.pack : 0);
        made.items = items;
        return made.number;
    }

    int implement(int type, int face) {
        Type t = typeAt(type);
        Type f = typeAt(face);
        bad(t == root() || !(t.isClass() || t.sort == Sort.FACE));
        bad(f.sort != Sort.FACE || face >= type);
        refuse(NO, t.faces.contains(f) || !things.isEmpty());
        refuse(FULL, t.faces.size() == 3);
        t.faces.add(f);
        return t.faces.size();
    }

    int about(int type, int what) {
        Type t = typeAt(type);
        bad(what < 0 || what > 9);
        switch (what) {
            case 0: return t.sort.ordinal();
            case 1: return t.sort == Sort.ROWS ? 8 : numberOf(t.parent);
            case 2: return numberOf(t.items);
            case 3: return t.pack;
            case 4: return t.faces.size();
            case 5: return ancestors(t).size();
            case 6: return isClosed(t) ? 1 : 0;
            default: return what - 7 < t.faces.size() ? t.faces.get(what - 7).number : NONE;
        }
    }

    private boolean isClosed(Type t) {
        return things.stream().anyMatch(one -> one.fields != null && isA(one.type, t));
    }

    int ancestor(int type, int i) {
        return at(new ArrayList<>(ancestors(typeAt(type))), i, BAD).number;
    }

    int is(int a, int b) {
        Type from = typeAt(a);
        Type to = typeAt(b);
        if (from.isReference() && to.isReference()) {
            return isA(from, to) ? 1 : 0;
        }
        return !from.isReference() && !to.isReference() && widens(a, b) ? 1 : 0;
    }

    int meet(int a, int b) {
        Type other = typeAt(b);
        bad(!typeAt(a).isReference() || !other.isReference());
        return ancestors(typeAt(a)).stream().filter(t -> isA(other, t)).findFirst().orElseThrow().number;
    }

    int letter(int type, int i) {
        String name = nameOf(typeAt(type));
        if (i == -1) {
            return name.length();
        }
        bad(i < 0 || i >= name.length());
        return name.charAt(i);
    }

    // ---- 2 MEMBERS

    private Member newMember(Type type, int name, int marks, Type of, List<Type> params) {
        refuse(FULL, members.size() == 100);
        Member m = new Member();
        m.number = members.size();
        m.type = type;
        m.name = name;
        m.marks = marks;
        m.of = of;
        m.params = params;
        m.shared = of == null ? null : first(of);
        members.add(m);
        return m;
    }

    private Type declaring(int type, int name) {
        Type t = typeAt(type);
        bad(t == root() || !(t.isClass() || t.sort == Sort.FACE));
        bad(name < 0 || name > 19);
        return t;
    }

    int field(int type, int name, int marks, int of) {
        Type t = declaring(type, name);
        bad(t.sort == Sort.FACE ? marks != 13 : marks < 0 || marks > 15);
        Type held = typeAt(of);
        refuse(NO, ownField(t, name) != null);
        refuse(NO, marks / 4 % 2 == 0 && isClosed(t));
        return newMember(t, name, marks, held, null).number;
    }

    int method(int type, int name, int marks, int result, int n, int a, int b, int c) {
        Type t = declaring(type, name);
        bad(marks < 0 || marks > 31);
        Member made = new Member();
        made.marks = marks;
        made.name = name;
        bad(!canBeMarked(t, made));
        made.of = result == NONE ? null : typeAt(result);
        bad(n < 0 || n > 3);
        made.params = new ArrayList<>();
        for (int p : Arrays.copyOf(new int[] {a, b, c}, n)) {
            made.params.add(typeAt(p));
        }
        refuse(NO, ownMethod(t, made) != null);
        return newMember(t, name, marks, made.of, made.params).number;
    }

    private static boolean canBeMarked(Type t, Member m) {
        if (m.isAbstract()) {
            if (t.sort == Sort.CLASS || m.isStatic() || m.isFinal() || m.isPrivate()) {
                return false;
            }
        }
        return t.sort != Sort.FACE || ((m.who() == 1 || m.who() == 2) && !m.isFinal());
    }

    private static boolean like(Member m, Member n) {
        return !m.isField() && !n.isField() && m.name == n.name && m.params.equals(n.params) && m.of == n.of;
    }

    private boolean overrides(Member m, Member n) {
        if (!like(m, n) || m.isStatic() || n.isStatic() || m.isPrivate() || n.isPrivate()) {
            return false;
        }
        return isA(m.type, n.type) && m.type != n.type && (n.who() == 1 || n.who() == 3 || m.type.pack == n.type.pack);
    }

    private Member ownField(Type t, int name) {
        return members.stream().filter(m -> m.isField() && m.type == t && m.name == name).findFirst().orElse(null);
    }

    private Member ownMethod(Type t, Member like) {
        return members.stream().filter(m -> m.type == t && like(m, like)).findFirst().orElse(null);
    }

    private Member foundField(Type t, int name, int way) {
        Member own = ownField(t, name);
        if (way == 0 || (own != null && (way == 2 || own.who() == 1))) {
            return own;
        }
        Member byParent = t.parent == null ? null : foundField(t.parent, name, way);
        if (way == 2 && byParent != null) {
            return byParent;
        }
        for (Type face : t.faces) {
            Member byFace = foundField(face, name, way);
            if (byFace != null) {
                return byFace;
            }
        }
        return byParent;
    }

    private Member foundMethod(Type t, Member like, int way, Type lookedFrom) {
        Member own = ownMethod(t, like);
        if (way == 0) {
            return own;
        }
        boolean passedOver = own != null && own.isStatic() && t.sort == Sort.FACE && t != lookedFrom;
        if (own != null && !passedOver && (way == 2 || own.who() == 1)) {
            return own;
        }
        Member found = t.parent == null ? null : foundMethod(t.parent, like, way, lookedFrom);
        for (int i = 0; found == null && i < t.faces.size(); i++) {
            found = foundMethod(t.faces.get(i), like, way, lookedFrom);
        }
        return found;
    }

    private Member inForce(Type t, Member m) {
        for (Type up = t; up != null; up = up.parent) {
            for (Member one : members) {
                boolean forFace = m.type.sort == Sort.FACE && like(one, m) && one.who() == 1 && !one.isStatic();
                if (one.type == up && (one == m || overrides(one, m) || forFace)) {
                    return one.isAbstract() ? inForceOfFaces(t, m) : one;
                }
            }
        }
        return inForceOfFaces(t, m);
    }

    private Member inForceOfFaces(Type t, Member m) {
        for (Type face : ancestors(t)) {
            for (Member one : members) {
                if (face.sort == Sort.FACE && one.type == face && (one == m || overrides(one, m)) && !one.isAbstract()) {
                    return one;
                }
            }
        }
        return null;
    }

    private static int numberOf(Member m) {
        return m == null ? NONE : m.number;
    }

    int member(int m, int what) {
        Member one = at(members, m, -3);
        refuse(-3, what < 0 || what > 10);
        switch (what) {
            case 0: return one.type.number;
            case 1: return one.name;
            case 2: return one.marks;
            case 3: return one.isField() ? 1 : 0;
            case 4: return numberOf(one.of);
            case 5: return one.isField() ? NONE : one.params.size();
            case 9: return one.opened ? 1 : 0;
            case 10: return one.isField() || one.isAbstract() ? NONE : one.body == null ? 0 : one.body[0];
            default: return one.isField() || what - 6 >= one.params.size() ? NONE : one.params.get(what - 6).number;
        }
    }

    int declared(int type, int i) {
        Type t = typeAt(type);
        return at(members.stream().filter(m -> m.type == t).toList(), i, BAD).number;
    }

    int findField(int type, int name, int way) {
        Type t = at(types, type, -2);
        refuse(-2, name < 0 || name > 19 || way < 0 || way > 2);
        return numberOf(foundField(t, name, way));
    }

    int findMethod(int type, int m, int way) {
        Type t = at(types, type, -2);
        Member like = methodAt(m, -2);
        refuse(-2, way < 0 || way > 2);
        return numberOf(foundMethod(t, like, way, t));
    }

    int overrides(int m, int n) {
        Member one = at(members, m, BAD);
        Member other = at(members, n, BAD);
        bad(one.isField() != other.isField());
        boolean hides = one.isField() && one.name == other.name && one.type != other.type && isA(one.type, other.type);
        return hides || overrides(one, other) ? 1 : 0;
    }

    int inForce(int type, int m) {
        Type t = at(types, type, -2);
        Member one = methodAt(m, -2);
        refuse(-2, !t.isClass() || one.isStatic() || one.isPrivate() || !isA(t, one.type));
        return numberOf(inForce(t, one));
    }

    int open(int m, boolean on) {
        Member one = at(members, m, BAD);
        boolean was = one.opened;
        one.opened = on;
        return was ? 1 : 0;
    }

    int caller(int type) {
        Type t = typeAt(type);
        bad(!t.isReference() || t.sort == Sort.ROWS);
        int was = caller.number;
        caller = t;
        return was;
    }

    int may(int m, int thing) {
        return hasAccess(at(members, m, BAD), thingAt(thing)) ? 1 : 0;
    }

    private boolean hasAccess(Member m, Thing thing) {
        Type d = m.type;
        boolean byObject = thing != null && thing.fields != null && isA(thing.type, caller);
        return m.opened || m.who() == 1 || caller == d || (!m.isPrivate() && caller.pack == d.pack)
            || (m.who() == 3 && isA(caller, d) && (m.isStatic() || byObject));
    }

    // ---- 3 THINGS

    private boolean goesInto(Value v, Type t) {
        if (v.kind != REFERENCE || !t.isReference()) {
            return v.kind != REFERENCE && !t.isReference() && widens(v.kind, t.number);
        }
        return v.it == null || isA(((Thing) v.it).type, t);
    }

    private Thing newThing(Type type) {
        Thing made = new Thing();
        made.number = things.size();
        made.type = type;
        things.add(made);
        return made;
    }

    int object(int type) {
        Type t = typeAt(type);
        bad(!t.isClass());
        refuse(FULL, things.size() == 80);
        fails(ABSTRACT, t.sort == Sort.ABSTRACT);
        Thing made = newThing(t);
        made.fields = new HashMap<>();
        for (Type up = t; up != null; up = up.parent) {
            for (Member m : members) {
                if (m.isField() && !m.isStatic() && m.type == up) {
                    made.fields.put(m, first(m.of));
                }
            }
        }
        return made.number;
    }

    int row(int type, int n) {
        Type t = typeAt(type);
        bad(t.sort != Sort.ROWS || n > 20);
        refuse(FULL, things.size() == 80);
        fails(SIZE, n < 0);
        Thing made = newThing(t);
        made.items = new Value[n];
        Arrays.fill(made.items, first(t.items));
        return made.number;
    }

    int thing(int t, int what) {
        refuse(-2, t < -1 || t >= things.size() || what < 0 || what > 1);
        if (t == -1) {
            return 0;
        }
        Thing one = things.get(t);
        return what == 0 ? one.type.number : one.items == null ? NONE : one.items.length;
    }

    int slot(int slot, int as, long bits) {
        slotAt(slot);
        kindOf(as);
        slots[slot] = fit(as, bits);
        return 1;
    }

    int kind(int slot) {
        slotAt(slot);
        return slots[slot].kind;
    }

    long bits(int slot) {
        return slot < 0 || slot > 7 ? Long.MIN_VALUE : bitsOf(slots[slot]);
    }

    private void reach(Member m, Thing thing) {
        fails(ACCESS, !hasAccess(m, thing));
        if (!m.isStatic()) {
            fails(NULL, thing == null);
            fails(ARGUMENT, !isA(thing.type, m.type));
        }
    }

    int get(int field, int thing, int as, int slot) {
        Member f = fieldAt(field);
        Thing holder = thingAt(thing);
        kindOf(as);
        slotAt(slot);
        reach(f, holder);
        fails(ARGUMENT, !widens(f.of.kind(), as));
        slots[slot] = widened(read(f, holder), as);
        return 1;
    }

    int set(int field, int thing, int slot) {
        Member f = fieldAt(field);
        Thing holder = thingAt(thing);
        slotAt(slot);
        fails(ACCESS, f.isFinal() && (!f.opened || f.isStatic()));
        reach(f, holder);
        fails(ARGUMENT, !goesInto(slots[slot], f.of));
        write(f, holder, slots[slot]);
        return 1;
    }

    private static Value read(Member f, Thing holder) {
        return f.isStatic() ? f.shared : holder.fields.get(f);
    }

    private static void write(Member f, Thing holder, Value v) {
        Value held = widened(v, f.of.kind());
        if (f.isStatic()) {
            f.shared = held;
        } else {
            holder.fields.put(f, held);
        }
    }

    private static void itemAt(Thing row, int i, int as) {
        fails(NULL, row == null);
        fails(ARGUMENT, row.items == null);
        fails(ARGUMENT, (row.type.items.kind() == REFERENCE) != (as == REFERENCE));
        fails(INDEX, i < 0 || i >= row.items.length);
    }

    int item(int thing, int i, int as, int slot) {
        Thing row = thingAt(thing);
        kindOf(as);
        slotAt(slot);
        itemAt(row, i, as);
        fails(ARGUMENT, !widens(row.type.items.kind(), as));
        slots[slot] = widened(row.items[i], as);
        return 1;
    }

    int put(int thing, int i, int slot) {
        Thing row = thingAt(thing);
        slotAt(slot);
        itemAt(row, i, slots[slot].kind);
        fails(ARGUMENT, !goesInto(slots[slot], row.type.items));
        row.items[i] = widened(slots[slot], row.type.items.kind());
        return 1;
    }

    int store(int thing, int i, int slot) {
        Thing row = thingAt(thing);
        slotAt(slot);
        bad(slots[slot].kind != REFERENCE);
        fails(NULL, row == null);
        fails(CAST, row.items == null || !row.type.items.isReference());
        fails(INDEX, i < 0 || i >= row.items.length);
        fails(STORE, !goesInto(slots[slot], row.type.items));
        row.items[i] = slots[slot];
        return 1;
    }

    int copy(int a, int i, int b, int j, int n) {
        Thing from = thingAt(a);
        Thing to = thingAt(b);
        fails(NULL, from == null || to == null);
        fails(STORE, from.items == null || to.items == null);
        boolean primitives = !from.type.items.isReference() || !to.type.items.isReference();
        fails(STORE, primitives && from.type.items != to.type.items);
        fails(INDEX, i < 0 || j < 0 || n < 0 || (long) i + n > from.items.length || (long) j + n > to.items.length);
        Value[] taken = Arrays.copyOfRange(from.items, i, i + n);
        for (int k = 0; k < n; k++) {
            fails(STORE, !goesInto(taken[k], to.type.items));
            to.items[j + k] = taken[k];
        }
        return 1;
    }

    // ---- 4 BODIES

    private boolean goesInto(Type a, Type b) {
        if (a.isReference() != b.isReference()) {
            return false;
        }
        return a.isReference() ? isA(a, b) : widens(a.number, b.number);
    }

    int body(int method, int kind, int x, int y) {
        Member m = methodAt(method, BAD);
        bad(m.isAbstract());
        Type comes = comesTo(m, kind, x, y);
        bad(comes != null && m.of != null && !goesInto(comes, m.of));
        refuse(NO, m.body != null);
        m.body = new int[] {kind, x, y};
        m.above = kind == 7 ? above(m) : null;
        return 1;
    }

    /** Whether such a BODY could be told of it, but for one that was. */
    boolean couldBe(int method, int kind, int x, int y) {
        try {
            Member m = methodAt(method, BAD);
            Type comes = comesTo(m, kind, x, y);
            return !m.isAbstract() && (comes == null || m.of == null || goesInto(comes, m.of));
        } catch (Answered refused) {
            return false;
        }
    }

    /** The type as told of what such a BODY comes to; null: nothing. */
    private Type comesTo(Member m, int kind, int x, int y) {
        switch (kind) {
            case 0: return null;
            case 1: return at(m.params, x, BAD);
            case 2: return reached(m, fieldAt(x)).of;
            case 3:
                bad(!goesInto(at(m.params, y, BAD), reached(m, fieldAt(x)).of));
                return null;
            case 4:
                bad(x < 1 || x > 8);
                return null;
            case 5: return passedOn(m, reached(m, methodAt(x, BAD))).of;
            case 6: return sumOf(at(m.params, x, BAD), at(m.params, y, BAD));
            case 7:
                bad(m.isStatic() || above(m) == null);
                bad(above(m).isAbstract() || above(m).isStatic() || above(m).isPrivate());
                return above(m).of;
            case 8:
                bad(at(m.params, x, BAD).sort != Sort.ROWS);
                bad(!goesInto(at(m.params, y, BAD), types.get(INT)));
                return m.params.get(x).items;
            default: throw new Answered(BAD);
        }
    }

    private Member reached(Member m, Member part) {
        bad(!part.isStatic() && (m.isStatic() || !isA(m.type, part.type)));
        return part;
    }

    private Member passedOn(Member m, Member to) {
        bad(to.params.size() > m.params.size());
        for (int i = 0; i < to.params.size(); i++) {
            bad(!goesInto(m.params.get(i), to.params.get(i)));
        }
        return to;
    }

    private Type sumOf(Type a, Type b) {
        bad(a.kind() < CHAR || a.kind() > DOUBLE || b.kind() < CHAR || b.kind() > DOUBLE);
        for (int kind : new int[] {DOUBLE, FLOAT, LONG}) {
            if (a.number == kind || b.number == kind) {
                return types.get(kind);
            }
        }
        return types.get(INT);
    }

    private Member above(Member m) {
        return m.type.parent == null ? null : foundMethod(m.type.parent, m, 2, m.type.parent);
    }

    // ---- calls

    int call(int method, int thing, int n, int slot) {
        Member m = methodAt(method, BAD);
        Thing self = thingAt(thing);
        bad(n < 0 || n > 3);
        slotAt(slot);
        reach(m, self);
        fails(ARGUMENT, n != m.params.size());
        for (int i = 0; i < n; i++) {
            fails(ARGUMENT, !goesInto(slots[i], m.params.get(i)));
        }
        try {
            Value came = called(m, false, self, Arrays.copyOf(slots, n), 0);
            slots[slot] = came == null ? new Value(INT, 0) : came;
            return 1;
        } catch (Ended end) {
            cause = end.cause;
            endedCalls++;
            throw new Answered(-10 - CAUSE);
        }
    }

    /** What it comes to; null: it has no RESULT. */
    private Value called(Member told, boolean itself, Thing self, Value[] given, int within) {
        if (within == 12) {
            throw new Ended(DEEP, told.number, within);
        }
        Member m = itself || told.isStatic() || told.isPrivate() ? told : inForce(self.type, told);
        if (m == null) {
            throw new Ended(ABSTRACT, told.number, within);
        }
        begun++;
        Value[] params = new Value[m.params.size()];
        for (int i = 0; i < params.length; i++) {
            params[i] = widened(given[i], m.params.get(i).kind());
        }
        Value came = m.body == null ? null : performed(m, self, params, within);
        if (m.of == null) {
            return null;
        }
        return came == null ? first(m.of) : widened(came, m.of.kind());
    }

    private Value performed(Member m, Thing self, Value[] params, int within) {
        int x = m.body[1];
        int y = m.body[2];
        switch (m.body[0]) {
            case 1: return params[x];
            case 2: return read(members.get(x), self);
            case 3:
                write(members.get(x), self, params[y]);
                return null;
            case 4: throw new Ended(x, m.number, within);
            case 5: return called(members.get(x), false, self, params, within + 1);
            case 6: return sum(m, params[x], params[y], within);
            case 7: return called(m.above, true, self, params, within + 1);
            case 8: return itemOf(m, params[x], params[y], within);
            default: return null;
        }
    }

    private Value sum(Member m, Value a, Value b, int within) {
        int kind = sumOf(types.get(a.kind), types.get(b.kind)).number;
        Object p = widened(a, kind).it;
        Object q = widened(b, kind).it;
        switch (kind) {
            case INT: return new Value(kind, (Integer) p + (Integer) q);
            case LONG: return new Value(kind, (Long) p + (Long) q);
            case FLOAT:
                float f = (Float) p + (Float) q;
                return number(new Value(kind, f), Float.isNaN(f), m, within);
            default:
                double d = (Double) p + (Double) q;
                return number(new Value(kind, d), Double.isNaN(d), m, within);
        }
    }

    private static Value number(Value sum, boolean isNone, Member m, int within) {
        if (isNone) {
            throw new Ended(ARGUMENT, m.number, within);
        }
        return sum;
    }

    private static Value itemOf(Member m, Value row, Value place, int within) {
        if (row.it == null) {
            throw new Ended(NULL, m.number, within);
        }
        Value[] items = ((Thing) row.it).items;
        int i = (Integer) widened(place, INT).it;
        if (i < 0 || i >= items.length) {
            throw new Ended(INDEX, m.number, within);
        }
        return items[i];
    }

    int cause(int what) {
        bad(what < 0 || what > 2);
        return cause[what];
    }

    int count(int what) {
        switch (what) {
            case 0: return types.size();
            case 1: return members.size();
            case 2: return things.size();
            case 3: return begun;
            case 4: return endedCalls;
            case 5: return (int) members.stream().filter(Member::isField).count();
            default: return BAD;
        }
    }
}
