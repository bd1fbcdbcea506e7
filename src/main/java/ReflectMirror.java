/**
 * A mirror house: types, their members, the things of them, and the calls that go to the member in force.
 * The words in capitals are those of the document; every call answers by a number and none throws.
 */
public final class ReflectMirror {
    public static final int BAD = -1, NO = -2, FULL = -3, NONE = -1;

    private static final int BOOLEAN = 0, CHAR = 1, BYTE = 2, SHORT = 3, INT = 4, LONG = 5, FLOAT = 6, DOUBLE = 7;
    private static final int ROOT = 8, REFERENCE = 8, NOTHING = -1;

    private static final int A_PRIMITIVE = 0, A_CLASS = 1, AN_ABSTRACT_CLASS = 2, A_FACE = 3, SOME_ROWS = 4;

    private static final int BY_ALL = 1, BY_ITSELF = 2, GUARDED = 3;
    private static final int WHO_MARKS = 3, STATIC_MARK = 4, FINAL_MARK = 8, ABSTRACT_MARK = 16;
    private static final int FACE_FIELD_MARKS = BY_ALL | STATIC_MARK | FINAL_MARK;

    private static final int DECLARED_WAY = 0, OPEN_WAY = 1, ANY_WAY = 2;

    private static final int NULL = 1, ARGUMENT = 2, INDEX = 3, STORE = 4, SIZE = 5, ACCESS = 6, ABSTRACT = 7,
            CAST = 8, CAUSE = 9, DEEP = 10;

    private static final int GIVES_NOTHING = 0, GIVES_PARAM = 1, GIVES_FIELD = 2, SETS_FIELD = 3, FAILS = 4,
            CALLS = 5, ADDS = 6, CALLS_ABOVE = 7, GIVES_ITEM = 8;

    private static final int MAX_TYPES = 60, MAX_MEMBERS = 100, MAX_THINGS = 80, MAX_FACES = 3, MAX_PARAMS = 3,
            MAX_ITEMS = 20, LAST_PACK = 3, LAST_NAME = 19, SLOT_COUNT = 8, DEEPEST = 12;

    private final Types types;
    private final Members members;
    private final Things things;
    private final BodyRules bodyRules;
    private final Runner runner;
    private final Slot[] slots;
    private Type callingType;

    public ReflectMirror() {
        types = new Types();
        members = new Members(types);
        things = new Things();
        bodyRules = new BodyRules(types, members);
        runner = new Runner(members, things);
        slots = new Slot[SLOT_COUNT];
        for (int i = 0; i < SLOT_COUNT; i++) {
            slots[i] = new Slot();
        }
        callingType = types.root;
    }

    // ---- types

    public int type(int parent, int pack, boolean isAbstract) {
        Type above = types.at(parent);
        if (above == null || !above.isClass() || !isPack(pack)) {
            return BAD;
        }
        return types.add(isAbstract ? AN_ABSTRACT_CLASS : A_CLASS, pack, above, null);
    }

    public int face(int pack) {
        return isPack(pack) ? types.add(A_FACE, pack, null, null) : BAD;
    }

    public int rows(int of) {
        Type items = types.at(of);
        return items == null ? BAD : types.rowsOf(items);
    }

    public int implement(int type, int face) {
        Type t = types.at(type);
        Type added = types.at(face);
        if (t == null || !t.mayDeclare() || added == null || added.sort != A_FACE || added.number >= t.number) {
            return BAD;
        }
        if (t.hasFace(added) || things.size > 0) {
            return NO;
        }
        if (t.faceCount >= MAX_FACES) {
            return FULL;
        }
        t.addFace(added);
        types.gatherAllSupers();
        return t.faceCount;
    }

    public int about(int type, int what) {
        Type t = types.at(type);
        if (t == null) {
            return BAD;
        }
        switch (what) {
            case 0: return t.sort;
            case 1: return numberOf(t.parent);
            case 2: return numberOf(t.items);
            case 3: return t.pack;
            case 4: return t.faceCount;
            case 5: return types.lineParentsFirst(t);
            case 6: return things.isClosed(t) ? 1 : 0;
            case 7: return numberOf(t.faceAt(0));
            case 8: return numberOf(t.faceAt(1));
            case 9: return numberOf(t.faceAt(2));
            default: return BAD;
        }
    }

    public int ancestor(int type, int i) {
        Type t = types.at(type);
        if (t == null || i < 0 || i >= types.lineParentsFirst(t)) {
            return BAD;
        }
        return numberOf(types.inLine(i));
    }

    public int is(int a, int b) {
        Type from = types.at(a);
        Type into = types.at(b);
        if (from == null || into == null) {
            return BAD;
        }
        return from.goesInto(into) ? 1 : 0;
    }

    public int meet(int a, int b) {
        Type first = types.at(a);
        Type other = types.at(b);
        if (first == null || other == null || !first.isReference || !other.isReference) {
            return BAD;
        }
        int length = types.lineParentsFirst(first);
        for (int i = 0; i < length; i++) {
            Type shared = types.inLine(i);
            if (shared != null && other.isA(shared)) {
                return shared.number;
            }
        }
        return ROOT;
    }

    public int letter(int type, int i) {
        Type t = types.at(type);
        if (t == null) {
            return BAD;
        }
        int length = t.nameLength();
        if (i == -1) {
            return length;
        }
        return i < 0 || i >= length ? BAD : t.nameByte(i);
    }

    // ---- members

    public int field(int type, int name, int marks, int of) {
        Type t = types.at(type);
        Type held = types.at(of);
        if (t == null || !t.mayDeclare() || !isName(name) || !t.takesFieldMarks(marks) || held == null) {
            return BAD;
        }
        Member made = new Member(members.size, t, name, marks, held, null);
        if (members.fieldIn(t, name) != null || (!made.isStatic() && things.isClosed(t))) {
            return NO;
        }
        return members.add(made);
    }

    public int method(int type, int name, int marks, int result, int n, int a, int b, int c) {
        Type t = types.at(type);
        Type given = types.at(result);
        if (t == null || !t.mayDeclare() || !isName(name) || !t.takesMethodMarks(marks)) {
            return BAD;
        }
        if ((given == null && result != NONE) || n < 0 || n > MAX_PARAMS) {
            return BAD;
        }
        Type[] params = new Type[n];
        for (int i = 0; i < n; i++) {
            params[i] = types.at(i == 0 ? a : i == 1 ? b : c);
            if (params[i] == null) {
                return BAD;
            }
        }
        Member made = new Member(members.size, t, name, marks, given, params);
        return members.methodIn(t, made) != null ? NO : members.add(made);
    }

    public int body(int method, int kind, int x, int y) {
        Member m = members.methodAt(method);
        if (m == null) {
            return BAD;
        }
        Member part = bodyRules.partOf(m, kind, x);
        if (!bodyRules.canBe(m, kind, x, y, part)) {
            return BAD;
        }
        if (m.bodyTold) {
            return NO;
        }
        m.tellBody(kind, x, y, part);
        return 1;
    }

    public int member(int m, int what) {
        Member asked = members.at(m);
        if (asked == null) {
            return -3;
        }
        switch (what) {
            case 0: return asked.type.number;
            case 1: return asked.name;
            case 2: return asked.marks;
            case 3: return asked.isField() ? 1 : 0;
            case 4: return numberOf(asked.of);
            case 5: return asked.isField() ? NONE : asked.paramCount();
            case 6: return numberOf(asked.paramAt(0));
            case 7: return numberOf(asked.paramAt(1));
            case 8: return numberOf(asked.paramAt(2));
            case 9: return asked.opened ? 1 : 0;
            case 10: return asked.bodyKind();
            default: return -3;
        }
    }

    public int declared(int type, int i) {
        Type t = types.at(type);
        return t == null ? BAD : memberNumber(members.nthOf(t, i));
    }

    public int findField(int type, int name, int way) {
        Type t = types.at(type);
        if (t == null || !isName(name) || !isWay(way)) {
            return -2;
        }
        return memberNumber(members.foundField(t, name, way));
    }

    public int findMethod(int type, int m, int way) {
        Type t = types.at(type);
        Member like = members.methodAt(m);
        if (t == null || like == null || !isWay(way)) {
            return -2;
        }
        return memberNumber(members.foundMethod(t, like, way));
    }

    public int overrides(int m, int n) {
        Member lower = members.at(m);
        Member upper = members.at(n);
        if (lower == null || upper == null || lower.isField() != upper.isField()) {
            return BAD;
        }
        return lower.isOverrideOf(upper) || lower.hides(upper) ? 1 : 0;
    }

    public int inForce(int type, int m) {
        Type t = types.at(type);
        Member told = members.methodAt(m);
        if (t == null || !t.isClass() || told == null || told.isBound() || !t.isA(told.type)) {
            return -2;
        }
        return memberNumber(members.forced(t, told));
    }

    public int open(int m, boolean on) {
        Member opened = members.at(m);
        if (opened == null) {
            return BAD;
        }
        int before = opened.opened ? 1 : 0;
        opened.opened = on;
        return before;
    }

    public int caller(int type) {
        Type t = types.at(type);
        if (t == null || !t.isReference || t.sort == SOME_ROWS) {
            return BAD;
        }
        int before = callingType.number;
        callingType = t;
        return before;
    }

    public int may(int m, int thing) {
        Member asked = members.at(m);
        if (asked == null || !things.isThereOrNothing(thing)) {
            return BAD;
        }
        return hasAccess(asked, things.at(thing)) ? 1 : 0;
    }

    // ---- things

    public int object(int type) {
        Type t = types.at(type);
        if (t == null || !t.isClass()) {
            return BAD;
        }
        if (things.isFull()) {
            return FULL;
        }
        return t.sort == AN_ABSTRACT_CLASS ? failed(ABSTRACT) : things.add(t, members.firstValues());
    }

    public int row(int type, int n) {
        Type t = types.at(type);
        if (t == null || t.items == null || n > MAX_ITEMS) {
            return BAD;
        }
        if (things.isFull()) {
            return FULL;
        }
        if (n < 0) {
            return failed(SIZE);
        }
        long[] values = new long[n];
        for (int i = 0; i < n; i++) {
            values[i] = t.items.firstBits();
        }
        return things.add(t, values);
    }

    public int thing(int t, int what) {
        if (!things.isThereOrNothing(t) || what < 0 || what > 1) {
            return -2;
        }
        Thing asked = things.at(t);
        if (asked == null) {
            return 0;
        }
        if (what == 0) {
            return asked.type.number;
        }
        return asked.isObject() ? NONE : asked.values.length;
    }

    public int slot(int slot, int as, long bits) {
        if (!isSlot(slot) || !isKind(as) || !isFit(as, bits)) {
            return BAD;
        }
        slots[slot].hold(as, bits);
        return 1;
    }

    public int kind(int slot) {
        return isSlot(slot) ? slots[slot].kind : BAD;
    }

    public long bits(int slot) {
        return isSlot(slot) ? slots[slot].bits : Long.MIN_VALUE;
    }

    public int get(int field, int thing, int as, int slot) {
        Member f = members.fieldAt(field);
        if (f == null || !things.isThereOrNothing(thing) || !isKind(as) || !isSlot(slot)) {
            return BAD;
        }
        Thing holder = things.at(thing);
        int failure = reachFailure(f, holder);
        if (failure != 0) {
            return failed(failure);
        }
        int from = f.ofKind();
        if (!Kinds.widens(from, as)) {
            return failed(ARGUMENT);
        }
        slots[slot].hold(as, Kinds.widened(f.read(holder), from, as));
        return 1;
    }

    public int set(int field, int thing, int slot) {
        Member f = members.fieldAt(field);
        if (f == null || !things.isThereOrNothing(thing) || !isSlot(slot)) {
            return BAD;
        }
        Thing holder = things.at(thing);
        int failure = f.isFinal() && (!f.opened || f.isStatic()) ? ACCESS : reachFailure(f, holder);
        if (failure != 0) {
            return failed(failure);
        }
        if (!slotGoesInto(slots[slot], f.of)) {
            return failed(ARGUMENT);
        }
        f.write(holder, slots[slot].widenedTo(f.of));
        return 1;
    }

    public int item(int thing, int i, int as, int slot) {
        if (!things.isThereOrNothing(thing) || !isKind(as) || !isSlot(slot)) {
            return BAD;
        }
        Thing row = things.at(thing);
        int failure = itemFailure(row, i, as);
        if (failure != 0 || row == null) {
            return failed(failure);
        }
        int from = row.itemKind();
        if (!Kinds.widens(from, as)) {
            return failed(ARGUMENT);
        }
        slots[slot].hold(as, Kinds.widened(row.valueAt(i), from, as));
        return 1;
    }

    public int put(int thing, int i, int slot) {
        if (!things.isThereOrNothing(thing) || !isSlot(slot)) {
            return BAD;
        }
        Thing row = things.at(thing);
        int failure = itemFailure(row, i, slots[slot].kind);
        if (failure != 0 || row == null) {
            return failed(failure);
        }
        return putSlot(row, i, slots[slot]) ? 1 : failed(ARGUMENT);
    }

    public int store(int thing, int i, int slot) {
        if (!things.isThereOrNothing(thing) || !isSlot(slot) || slots[slot].kind != REFERENCE) {
            return BAD;
        }
        Thing row = things.at(thing);
        if (row == null) {
            return failed(NULL);
        }
        if (!row.type.isRowsOfReferences) {
            return failed(CAST);
        }
        if (!row.has(i)) {
            return failed(INDEX);
        }
        return putSlot(row, i, slots[slot]) ? 1 : failed(STORE);
    }

    public int copy(int a, int i, int b, int j, int n) {
        if (!things.isThereOrNothing(a) || !things.isThereOrNothing(b)) {
            return BAD;
        }
        Thing from = things.at(a);
        Thing into = things.at(b);
        if (from == null || into == null) {
            return failed(NULL);
        }
        if (!from.sharesItemsWith(into)) {
            return failed(STORE);
        }
        if (!from.hasSpan(i, n) || !into.hasSpan(j, n)) {
            return failed(INDEX);
        }
        return things.copied(from, i, into, j, n) ? 1 : failed(STORE);
    }

    // ---- calls

    public int call(int method, int thing, int n, int slot) {
        Member m = members.methodAt(method);
        if (m == null || !things.isThereOrNothing(thing) || n < 0 || n > MAX_PARAMS || !isSlot(slot)) {
            return BAD;
        }
        Thing self = things.at(thing);
        int failure = reachFailure(m, self);
        if (failure != 0) {
            return failed(failure);
        }
        if (!slotsGoInto(m, n)) {
            return failed(ARGUMENT);
        }
        for (int i = 0; i < n; i++) {
            runner.layParam(0, i, slots[i].widenedTo(m.paramAt(i)));
        }
        if (!runner.ran(m, false, self, 0)) {
            runner.failedCalls++;
            return failed(CAUSE);
        }
        slots[slot].hold(runner.cameKind == NONE ? INT : runner.cameKind, runner.cameBits);
        return 1;
    }

    public int cause(int what) {
        switch (what) {
            case 0: return runner.failure;
            case 1: return runner.failedMethod;
            case 2: return runner.failedWithin;
            default: return BAD;
        }
    }

    public int count(int what) {
        switch (what) {
            case 0: return types.size;
            case 1: return members.size;
            case 2: return things.size;
            case 3: return runner.begun;
            case 4: return runner.failedCalls;
            case 5: return members.fieldCount;
            default: return BAD;
        }
    }

    // ---- what the calls share

    private static boolean isPack(int pack) {
        return pack >= 0 && pack <= LAST_PACK;
    }

    private static boolean isName(int name) {
        return name >= 0 && name <= LAST_NAME;
    }

    private static boolean isWay(int way) {
        return way >= DECLARED_WAY && way <= ANY_WAY;
    }

    private static boolean isKind(int as) {
        return as >= BOOLEAN && as <= REFERENCE;
    }

    private static boolean isSlot(int slot) {
        return slot >= 0 && slot < SLOT_COUNT;
    }

    private static int numberOf(Type t) {
        return t == null ? NONE : t.number;
    }

    private static int memberNumber(Member m) {
        return m == null ? NONE : m.number;
    }

    private static int failed(int failure) {
        return -10 - failure;
    }

    private boolean isFit(int as, long bits) {
        if (as == REFERENCE) {
            return bits >= NOTHING && bits < things.size;
        }
        return Kinds.isFit(as, bits);
    }

    private boolean hasAccess(Member m, Thing thing) {
        if (m.opened || m.who() == BY_ALL || callingType == m.type) {
            return true;
        }
        if (m.who() == BY_ITSELF) {
            return false;
        }
        if (callingType.pack == m.type.pack) {
            return true;
        }
        return m.who() == GUARDED && callingType.isA(m.type)
                && (m.isStatic() || (thing != null && thing.isObject() && thing.type.isA(callingType)));
    }

    /** What get, set and call FAIL by ahead of looking at values; 0: the MEMBER can be reached by the THING. */
    private int reachFailure(Member m, Thing thing) {
        if (!hasAccess(m, thing)) {
            return ACCESS;
        }
        if (m.isStatic()) {
            return 0;
        }
        if (thing == null) {
            return NULL;
        }
        return thing.type.isA(m.type) ? 0 : ARGUMENT;
    }

    /** What item and put FAIL by ahead of looking at the VALUE; 0: there is such an ITEM. */
    private static int itemFailure(Thing row, int i, int kind) {
        if (row == null) {
            return NULL;
        }
        if (row.isObject() || (row.itemKind() == REFERENCE) != (kind == REFERENCE)) {
            return ARGUMENT;
        }
        return row.has(i) ? 0 : INDEX;
    }

    private boolean putSlot(Thing row, int i, Slot from) {
        Type items = row.type.items;
        if (!slotGoesInto(from, items)) {
            return false;
        }
        row.become(i, from.widenedTo(items));
        return true;
    }

    private boolean slotGoesInto(Slot from, Type into) {
        if (into == null || !Kinds.widens(from.kind, into.valueKind())) {
            return false;
        }
        return from.kind != REFERENCE || things.referenceGoesInto(from.bits, into);
    }

    private boolean slotsGoInto(Member m, int n) {
        if (n != m.paramCount() || n > SLOT_COUNT) {
            return false;
        }
        for (int i = 0; i < n; i++) {
            if (!slotGoesInto(slots[i], m.paramAt(i))) {
                return false;
            }
        }
        return true;
    }

    // ---- the parts

    private static final class Slot {
        int kind = INT;
        long bits;

        void hold(int newKind, long newBits) {
            kind = newKind;
            bits = newBits;
        }

        long widenedTo(Type into) {
            return into == null ? bits : Kinds.widened(bits, kind, into.valueKind());
        }
    }

    private static final class Type {
        final int number;
        final int sort;
        final int pack;
        /** Null: none. Of ROWS it is ROOT. */
        final Type parent;
        /** What ROWS are of; null of all others. */
        final Type items;
        final boolean isReference;
        final boolean isRowsOfReferences;
        /** The ROWS of this type; null till they are told. */
        Type itsRows;
        final Type[] faces = new Type[MAX_FACES];
        int faceCount;
        /** A bit for each type that this one IS by PARENTS and FACES: 60 types fit into a long. */
        long supers;

        Type(int number, int sort, int pack, Type parent, Type items) {
            this.number = number;
            this.sort = sort;
            this.pack = pack;
            this.parent = parent;
            this.items = items;
            this.isReference = sort != A_PRIMITIVE;
            this.isRowsOfReferences = items != null && items.isReference;
        }

        boolean isClass() {
            return sort == A_CLASS || sort == AN_ABSTRACT_CLASS;
        }

        boolean mayDeclare() {
            return sort == A_FACE || (isClass() && number != ROOT);
        }

        int valueKind() {
            return isReference ? REFERENCE : number;
        }

        long firstBits() {
            return isReference ? NOTHING : 0;
        }

        Type faceAt(int i) {
            return i >= 0 && i < faceCount ? faces[i] : null;
        }

        boolean hasFace(Type face) {
            for (int i = 0; i < faceCount; i++) {
                if (faces[i] == face) {
                    return true;
                }
            }
            return false;
        }

        void addFace(Type face) {
            if (faceCount < MAX_FACES) {
                faces[faceCount] = face;
                faceCount++;
            }
        }

        void gatherSupers() {
            long all = 1L << number;
            if (isReference) {
                all |= 1L << ROOT;
            }
            if (parent != null) {
                all |= parent.supers;
            }
            for (int i = 0; i < faceCount; i++) {
                all |= faces[i].supers;
            }
            supers = all;
        }

        /** ROWS of REFERENCES are as what they are of; below them the gathered bits tell. */
        boolean isA(Type wanted) {
            Type a = this;
            Type b = wanted;
            for (int i = 0; i < MAX_TYPES && a.isRowsOfReferences && b.isRowsOfReferences; i++) {
                a = a.items;
                b = b.items;
            }
            return (a.supers >>> b.number & 1L) != 0;
        }

        boolean goesInto(Type into) {
            if (isReference && into.isReference) {
                return isA(into);
            }
            return !isReference && Kinds.widens(number, into.valueKind());
        }

        boolean takesFieldMarks(int marks) {
            if (sort == A_FACE) {
                return marks == FACE_FIELD_MARKS;
            }
            return marks >= 0 && marks <= (WHO_MARKS | STATIC_MARK | FINAL_MARK);
        }

        boolean takesMethodMarks(int marks) {
            if (marks < 0 || marks > (WHO_MARKS | STATIC_MARK | FINAL_MARK | ABSTRACT_MARK)) {
                return false;
            }
            int who = marks & WHO_MARKS;
            boolean isFinal = (marks & FINAL_MARK) != 0;
            if (sort == A_FACE && (isFinal || (who != BY_ALL && who != BY_ITSELF))) {
                return false;
            }
            if ((marks & ABSTRACT_MARK) == 0) {
                return true;
            }
            return sort != A_CLASS && !isFinal && (marks & STATIC_MARK) == 0 && who != BY_ITSELF;
        }

        int rowDepth() {
            int depth = 0;
            for (Type t = items; t != null && depth < MAX_TYPES; t = t.items) {
                depth++;
            }
            return depth;
        }

        Type innermost() {
            Type t = this;
            for (int i = 0; i < MAX_TYPES && t.items != null; i++) {
                t = t.items;
            }
            return t;
        }

        int nameLength() {
            Type last = innermost();
            int own = !last.isReference ? 1 : last.number < 10 ? 3 : 4;
            return rowDepth() + own;
        }

        /** Byte i, which must be below nameLength(). */
        int nameByte(int i) {
            int place = i - rowDepth();
            Type last = innermost();
            if (place < 0) {
                return '[';
            }
            if (!last.isReference) {
                return Kinds.nameByte(last.number);
            }
            if (place == 0) {
                return 'L';
            }
            if (i == nameLength() - 1) {
                return ';';
            }
            return '0' + (place == 1 && last.number >= 10 ? last.number / 10 : last.number % 10);
        }
    }

    private static final class Types {
        final Type[] all = new Type[MAX_TYPES];
        int size;
        final Type root;
        /** The types to look through, in order, as the last call of a line..First() laid them. */
        private final Type[] line = new Type[MAX_TYPES];
        private int lineSize;
        private long lined;

        Types() {
            for (int primitive = BOOLEAN; primitive <= DOUBLE; primitive++) {
                all[primitive] = new Type(primitive, A_PRIMITIVE, 0, null, null);
            }
            root = new Type(ROOT, A_CLASS, 0, null, null);
            all[ROOT] = root;
            size = ROOT + 1;
            gatherAllSupers();
        }

        Type at(int number) {
            return number >= 0 && number < size ? all[number] : null;
        }

        int add(int sort, int pack, Type parent, Type items) {
            if (size >= MAX_TYPES) {
                return FULL;
            }
            Type made = new Type(size, sort, pack, parent, items);
            made.gatherSupers();
            all[size] = made;
            size++;
            return made.number;
        }

        int rowsOf(Type of) {
            if (of.itsRows != null) {
                return of.itsRows.number;
            }
            int number = add(SOME_ROWS, of.pack, root, of);
            of.itsRows = at(number);
            return number;
        }

        /** One pass is enough: PARENTS and FACES have lower numbers than the types that have them. */
        void gatherAllSupers() {
            for (int i = 0; i < size; i++) {
                all[i].gatherSupers();
            }
        }

        Type inLine(int i) {
            return i >= 0 && i < lineSize ? line[i] : null;
        }

        /** The ANCESTORS, in order: how many. */
        int lineParentsFirst(Type from) {
            clearLine();
            if (from.sort == A_FACE) {
                lineFace(from, 0);
                lineUp(root);
            } else if (from.isReference) {
                lineUp(from);
                for (int i = lineSize - 1; i >= 0; i--) {
                    lineFacesOf(line[i]);
                }
            }
            return lineSize;
        }

        /** The same types, the FACES of each ahead of its PARENT: how many. */
        int lineFacesFirst(Type from) {
            clearLine();
            Type t = from;
            for (int i = 0; i < MAX_TYPES && t != null; i++) {
                join(t);
                lineFacesOf(t);
                t = t.parent;
            }
            return lineSize;
        }

        private void clearLine() {
            lineSize = 0;
            lined = 0;
        }

        private void lineUp(Type from) {
            Type t = from;
            for (int i = 0; i < MAX_TYPES && t != null; i++) {
                join(t);
                t = t.parent;
            }
        }

        private void lineFacesOf(Type t) {
            for (int i = 0; i < t.faceCount; i++) {
                lineFace(t.faces[i], 0);
            }
        }

        /** One that was met is left with all behind it, or the ways through shared FACES would be too many. */
        private void lineFace(Type face, int depth) {
            if (depth >= MAX_TYPES || !join(face)) {
                return;
            }
            for (int i = 0; i < face.faceCount; i++) {
                lineFace(face.faces[i], depth + 1);
            }
        }

        private boolean join(Type t) {
            long bit = 1L << t.number;
            if ((lined & bit) != 0 || lineSize >= MAX_TYPES) {
                return false;
            }
            lined |= bit;
            line[lineSize] = t;
            lineSize++;
            return true;
        }
    }

    private static final class Member {
        final int number;
        final Type type;
        final int name;
        final int marks;
        /** What a FIELD is of; the RESULT, null for nothing. */
        final Type of;
        /** Null: a FIELD. */
        private final Type[] params;
        boolean opened;
        boolean bodyTold;
        private int bodyKind = GIVES_NOTHING;
        int bodyX;
        int bodyY;
        /** The FIELD or METHOD that the BODY names, or the METHOD above; null where its kind has none. */
        Member bodyPart;
        private long staticBits;

        Member(int number, Type type, int name, int marks, Type of, Type[] params) {
            this.number = number;
            this.type = type;
            this.name = name;
            this.marks = marks;
            this.of = of;
            this.params = params;
            this.staticBits = of == null ? 0 : of.firstBits();
        }

        boolean isField() {
            return params == null;
        }

        int who() {
            return marks & WHO_MARKS;
        }

        boolean isStatic() {
            return (marks & STATIC_MARK) != 0;
        }

        boolean isFinal() {
            return (marks & FINAL_MARK) != 0;
        }

        boolean isAbstract() {
            return (marks & ABSTRACT_MARK) != 0;
        }

        boolean isOpenToObjects() {
            return who() == BY_ALL && !isStatic();
        }

        /** STATIC or PRIVATE: no other can stand for it. */
        boolean isBound() {
            return isStatic() || who() == BY_ITSELF;
        }

        int paramCount() {
            return params == null ? 0 : params.length;
        }

        Type paramAt(int i) {
            return i >= 0 && i < paramCount() ? params[i] : null;
        }

        /** The kind of what it is of: what a FIELD holds, a METHOD's RESULT. */
        int ofKind() {
            return of == null ? NONE : of.valueKind();
        }

        long ofFirstBits() {
            return of == null ? 0 : of.firstBits();
        }

        int bodyKind() {
            return params == null || isAbstract() ? NONE : bodyKind;
        }

        void tellBody(int kind, int x, int y, Member part) {
            bodyTold = true;
            bodyKind = kind;
            bodyX = x;
            bodyY = y;
            bodyPart = part;
        }

        boolean isLike(Member other) {
            if (isField() || other.isField() || name != other.name || of != other.of
                    || paramCount() != other.paramCount()) {
                return false;
            }
            for (int i = 0; i < paramCount(); i++) {
                if (paramAt(i) != other.paramAt(i)) {
                    return false;
                }
            }
            return true;
        }

        boolean isOverrideOf(Member other) {
            if (!isLike(other) || isBound() || other.isBound() || type == other.type || !type.isA(other.type)) {
                return false;
            }
            return other.who() == BY_ALL || other.who() == GUARDED || type.pack == other.type.pack;
        }

        boolean hides(Member other) {
            return isField() && other.isField() && name == other.name && type != other.type && type.isA(other.type);
        }

        long read(Thing holder) {
            if (isStatic() || holder == null) {
                return staticBits;
            }
            return holder.valueAt(number);
        }

        void write(Thing holder, long bits) {
            if (isStatic()) {
                staticBits = bits;
            } else if (holder != null) {
                holder.become(number, bits);
            }
        }
    }

    private static final class Members {
        private final Types types;
        private final Member[] all = new Member[MAX_MEMBERS];
        int size;
        int fieldCount;

        Members(Types types) {
            this.types = types;
        }

        Member at(int number) {
            return number >= 0 && number < size ? all[number] : null;
        }

        Member fieldAt(int number) {
            Member m = at(number);
            return m != null && m.isField() ? m : null;
        }

        Member methodAt(int number) {
            Member m = at(number);
            return m != null && !m.isField() ? m : null;
        }

        int add(Member made) {
            if (size >= MAX_MEMBERS) {
                return FULL;
            }
            all[size] = made;
            size++;
            if (made.isField()) {
                fieldCount++;
            }
            return made.number;
        }

        /** By the numbers of MEMBERS: an OBJECT's type is CLOSED, so none of its FIELDS can come later. */
        long[] firstValues() {
            long[] values = new long[size];
            for (int i = 0; i < size; i++) {
                values[i] = all[i].ofFirstBits();
            }
            return values;
        }

        Member nthOf(Type t, int n) {
            int passed = 0;
            for (int i = 0; i < size; i++) {
                if (all[i].type == t) {
                    if (passed == n) {
                        return all[i];
                    }
                    passed++;
                }
            }
            return null;
        }

        Member fieldIn(Type t, int name) {
            for (int i = 0; i < size; i++) {
                if (all[i].isField() && all[i].type == t && all[i].name == name) {
                    return all[i];
                }
            }
            return null;
        }

        Member methodIn(Type t, Member like) {
            for (int i = 0; i < size; i++) {
                if (all[i].type == t && all[i].isLike(like)) {
                    return all[i];
                }
            }
            return null;
        }

        Member foundField(Type from, int name, int way) {
            if (way == DECLARED_WAY) {
                return fieldIn(from, name);
            }
            int length = way == OPEN_WAY ? types.lineFacesFirst(from) : types.lineParentsFirst(from);
            for (int i = 0; i < length; i++) {
                Member f = fieldIn(types.inLine(i), name);
                if (f != null && (way == ANY_WAY || f.who() == BY_ALL)) {
                    return f;
                }
            }
            return null;
        }

        Member foundMethod(Type from, Member like, int way) {
            if (way == DECLARED_WAY) {
                return methodIn(from, like);
            }
            int length = types.lineParentsFirst(from);
            for (int i = 0; i < length; i++) {
                Member m = methodIn(types.inLine(i), like);
                if (m != null && (way == ANY_WAY || m.who() == BY_ALL) && !isPassedOver(m, from)) {
                    return m;
                }
            }
            return null;
        }

        private static boolean isPassedOver(Member m, Type from) {
            return m.isStatic() && m.type.sort == A_FACE && m.type != from;
        }

        /** The METHOD IN FORCE; null: there is none. */
        Member forced(Type t, Member told) {
            Member inClass = standingInClasses(t, told);
            if (inClass != null && !inClass.isAbstract()) {
                return inClass;
            }
            int length = types.lineParentsFirst(t);
            for (int i = 0; i < length; i++) {
                Type u = types.inLine(i);
                Member m = u != null && u.sort == A_FACE ? methodIn(u, told) : null;
                if (m != null && !m.isAbstract() && (m == told || m.isOverrideOf(told))) {
                    return m;
                }
            }
            return null;
        }

        private Member standingInClasses(Type from, Member told) {
            boolean ofFace = told.type.sort == A_FACE;
            Type t = from;
            for (int i = 0; i < MAX_TYPES && t != null; i++) {
                Member m = methodIn(t, told);
                if (m != null && (m == told || m.isOverrideOf(told) || (ofFace && m.isOpenToObjects()))) {
                    return m;
                }
                t = t.parent;
            }
            return null;
        }
    }

    private static final class Thing {
        final Type type;
        /** ITEMS of ROWS; of an OBJECT its FIELDS, each at its MEMBER's number. */
        final long[] values;

        Thing(Type type, long[] values) {
            this.type = type;
            this.values = values;
        }

        boolean isObject() {
            return type.items == null;
        }

        int itemKind() {
            return type.items == null ? NONE : type.items.valueKind();
        }

        boolean has(int i) {
            return i >= 0 && i < values.length;
        }

        boolean hasSpan(int i, int n) {
            return i >= 0 && n >= 0 && i <= values.length && n <= values.length - i;
        }

        long valueAt(int i) {
            return has(i) ? values[i] : 0;
        }

        void become(int i, long bits) {
            if (has(i)) {
                values[i] = bits;
            }
        }

        /** Both ROWS, of REFERENCES or of one PRIMITIVE. */
        boolean sharesItemsWith(Thing other) {
            return !isObject() && itemKind() == other.itemKind();
        }
    }

    private static final class Things {
        private final Thing[] all = new Thing[MAX_THINGS];
        int size;
        /** ITEMS under way, so that ROWS may be copied onto themselves. */
        private final long[] taken = new long[MAX_ITEMS];

        boolean isFull() {
            return size >= MAX_THINGS;
        }

        Thing at(int number) {
            return number >= 0 && number < size ? all[number] : null;
        }

        boolean isThereOrNothing(int number) {
            return number >= NOTHING && number < size;
        }

        int add(Type type, long[] values) {
            if (isFull()) {
                return FULL;
            }
            all[size] = new Thing(type, values);
            size++;
            return size - 1;
        }

        boolean isClosed(Type t) {
            for (int i = 0; i < size; i++) {
                if (all[i].isObject() && all[i].type.isA(t)) {
                    return true;
                }
            }
            return false;
        }

        boolean referenceGoesInto(long bits, Type into) {
            if (bits < 0 || bits >= size) {
                return bits == NOTHING;
            }
            return all[(int) bits].type.isA(into);
        }

        /** The spans must be there. False: an ITEM does not GO INTO the other's type; those ahead of it have gone. */
        boolean copied(Thing from, int i, Thing into, int j, int n) {
            Type items = into.type.items;
            if (items == null || n > MAX_ITEMS) {
                return false;
            }
            for (int k = 0; k < n; k++) {
                taken[k] = from.valueAt(i + k);
            }
            for (int k = 0; k < n; k++) {
                if (items.isReference && !referenceGoesInto(taken[k], items)) {
                    return false;
                }
                into.become(j + k, taken[k]);
            }
            return true;
        }
    }

    /** Which BODIES can be told of a METHOD. */
    private static final class BodyRules {
        private final Types types;
        private final Members members;

        BodyRules(Types types, Members members) {
            this.types = types;
            this.members = members;
        }

        /** The MEMBER that such a BODY names; null: none. */
        Member partOf(Member m, int kind, int x) {
            switch (kind) {
                case GIVES_FIELD:
                case SETS_FIELD: return members.fieldAt(x);
                case CALLS: return members.methodAt(x);
                case CALLS_ABOVE: return m.type.parent == null ? null : members.foundMethod(m.type.parent, m, ANY_WAY);
                default: return null;
            }
        }

        boolean canBe(Member m, int kind, int x, int y, Member part) {
            if (m.isAbstract()) {
                return false;
            }
            switch (kind) {
                case GIVES_NOTHING: return true;
                case GIVES_PARAM: return resultTakes(m, m.paramAt(x));
                case GIVES_FIELD: return isInReach(m, part) && resultTakes(m, part.of);
                case SETS_FIELD: return isInReach(m, part) && typeGoesInto(m.paramAt(y), part.of);
                case FAILS: return x >= NULL && x <= CAST;
                case CALLS: return isInReach(m, part) && canPassParams(m, part)
                        && (part.of == null || resultTakes(m, part.of));
                case ADDS: return canAdd(m, m.paramAt(x), m.paramAt(y));
                case CALLS_ABOVE: return !m.isStatic() && part != null && !part.isAbstract() && !part.isBound();
                case GIVES_ITEM: return canTakeItem(m, m.paramAt(x), m.paramAt(y));
                default: return false;
            }
        }

        private static boolean typeGoesInto(Type from, Type into) {
            return from != null && into != null && from.goesInto(into);
        }

        private static boolean resultTakes(Member m, Type from) {
            return from != null && (m.of == null || from.goesInto(m.of));
        }

        private static boolean isInReach(Member m, Member part) {
            return part != null && (part.isStatic() || (!m.isStatic() && m.type.isA(part.type)));
        }

        private static boolean canPassParams(Member m, Member part) {
            for (int i = 0; i < part.paramCount(); i++) {
                if (!typeGoesInto(m.paramAt(i), part.paramAt(i))) {
                    return false;
                }
            }
            return true;
        }

        private boolean canAdd(Member m, Type a, Type b) {
            if (a == null || b == null || !Kinds.isNumber(a.valueKind()) || !Kinds.isNumber(b.valueKind())) {
                return false;
            }
            return resultTakes(m, types.at(Kinds.sumKind(a.number, b.number)));
        }

        private static boolean canTakeItem(Member m, Type row, Type place) {
            if (row == null || place == null || !Kinds.widens(place.valueKind(), INT)) {
                return false;
            }
            return resultTakes(m, row.items);
        }
    }

    /** The METHODS under way, each with its PARAMS in a row of its own. */
    private static final class Runner {
        private final Members members;
        private final Things things;
        /** One row more than may run: the PARAMS are laid ahead of asking how deep it is. */
        private final long[] params = new long[(DEEPEST + 1) * MAX_PARAMS];
        /** What the latest BODY or METHOD came to: its kind (NONE: nothing) and BITS. */
        int cameKind = NONE;
        long cameBits;
        int failure;
        int failedMethod;
        int failedWithin;
        int begun;
        int failedCalls;

        Runner(Members members, Things things) {
            this.members = members;
            this.things = things;
        }

        /** Calls the METHOD itself, or the one IN FORCE for it. False: it FAILED, and the cause is kept. */
        boolean ran(Member told, boolean itself, Thing self, int depth) {
            if (depth >= DEEPEST) {
                return fail(DEEP, told, depth);
            }
            Member m = told;
            if (!itself && !told.isBound()) {
                m = self == null ? null : members.forced(self.type, told);
            }
            if (m == null) {
                return fail(ABSTRACT, told, depth);
            }
            begun++;
            cameKind = NONE;
            if (!performed(m, self, depth)) {
                return false;
            }
            becomeResult(m);
            return true;
        }

        private boolean fail(int by, Member m, int depth) {
            failure = by;
            failedMethod = m.number;
            failedWithin = depth;
            return false;
        }

        private void becomeResult(Member m) {
            boolean nothing = cameKind == NONE || m.of == null;
            cameBits = nothing ? m.ofFirstBits() : Kinds.widened(cameBits, cameKind, m.ofKind());
            cameKind = m.ofKind();
        }

        private boolean performed(Member m, Thing self, int depth) {
            switch (m.bodyKind()) {
                case GIVES_PARAM: return comeTo(m.paramAt(m.bodyX), paramAt(depth, m.bodyX));
                case GIVES_FIELD: return gaveField(m.bodyPart, self);
                case SETS_FIELD: return wroteField(m, self, depth);
                case FAILS: return fail(m.bodyX, m, depth);
                case CALLS:
                case CALLS_ABOVE: return passedOn(m, self, depth);
                case ADDS: return added(m, depth);
                case GIVES_ITEM: return gaveItem(m, depth);
                default: return true;
            }
        }

        private boolean comeTo(Type type, long bits) {
            cameKind = type == null ? NONE : type.valueKind();
            cameBits = bits;
            return true;
        }

        private boolean gaveField(Member field, Thing self) {
            return field == null || comeTo(field.of, field.read(self));
        }

        private boolean wroteField(Member m, Thing self, int depth) {
            Member field = m.bodyPart;
            Type from = m.paramAt(m.bodyY);
            if (field != null && from != null) {
                field.write(self, Kinds.widened(paramAt(depth, m.bodyY), from.valueKind(), field.ofKind()));
            }
            return true;
        }

        private boolean passedOn(Member m, Thing self, int depth) {
            Member next = m.bodyPart;
            if (next == null) {
                return true;
            }
            for (int i = 0; i < next.paramCount(); i++) {
                Type from = m.paramAt(i);
                Type into = next.paramAt(i);
                if (from != null && into != null) {
                    layParam(depth + 1, i, Kinds.widened(paramAt(depth, i), from.valueKind(), into.valueKind()));
                }
            }
            return ran(next, m.bodyKind() == CALLS_ABOVE, self, depth + 1);
        }

        private boolean added(Member m, int depth) {
            Type a = m.paramAt(m.bodyX);
            Type b = m.paramAt(m.bodyY);
            if (a == null || b == null) {
                return true;
            }
            int sumKind = Kinds.sumKind(a.number, b.number);
            long x = Kinds.widened(paramAt(depth, m.bodyX), a.number, sumKind);
            long y = Kinds.widened(paramAt(depth, m.bodyY), b.number, sumKind);
            if (!Kinds.canSum(sumKind, x, y)) {
                return fail(ARGUMENT, m, depth);
            }
            cameKind = sumKind;
            cameBits = Kinds.sum(sumKind, x, y);
            return true;
        }

        private boolean gaveItem(Member m, int depth) {
            Type rows = m.paramAt(m.bodyX);
            long number = paramAt(depth, m.bodyX);
            long place = paramAt(depth, m.bodyY);
            Thing row = number >= 0 && number < things.size ? things.at((int) number) : null;
            if (rows == null || row == null) {
                return fail(NULL, m, depth);
            }
            if (place < 0 || place >= row.values.length) {
                return fail(INDEX, m, depth);
            }
            return comeTo(rows.items, row.valueAt((int) place));
        }

        private long paramAt(int depth, int i) {
            int place = depth * MAX_PARAMS + i;
            return i >= 0 && i < MAX_PARAMS && place >= 0 && place < params.length ? params[place] : 0;
        }

        void layParam(int depth, int i, long bits) {
            int place = depth * MAX_PARAMS + i;
            if (i >= 0 && i < MAX_PARAMS && place >= 0 && place < params.length) {
                params[place] = bits;
            }
        }
    }

    /** The PRIMITIVES and their BITS; REFERENCE stands beside them as a kind that widens to itself alone. */
    private static final class Kinds {
        private static final String NAMES = "ZCBSIJFD";

        static int nameByte(int primitive) {
            return primitive >= 0 && primitive < NAMES.length() ? NAMES.charAt(primitive) : BAD;
        }

        static boolean isNumber(int kind) {
            return kind >= CHAR && kind <= DOUBLE;
        }

        static boolean widens(int from, int to) {
            if (from == to) {
                return true;
            }
            if (from == CHAR) {
                return to >= INT && to <= DOUBLE;
            }
            return from >= BYTE && from < to && to <= DOUBLE;
        }

        static long widened(long bits, int from, int to) {
            if (from == to || to < FLOAT || to > DOUBLE) {
                return bits;
            }
            return from == FLOAT ? Floats.toDouble(bits) : Floats.fromWhole(bits, to == DOUBLE);
        }

        static boolean isFit(int kind, long bits) {
            switch (kind) {
                case BOOLEAN: return bits == 0 || bits == 1;
                case CHAR: return bits >= 0 && bits <= 65535;
                case BYTE: return bits == (byte) bits;
                case SHORT: return bits == (short) bits;
                case INT: return bits == (int) bits;
                case LONG: return true;
                case FLOAT: return bits == (int) bits && Floats.isNumber(bits, false);
                case DOUBLE: return Floats.isNumber(bits, true);
                default: return false;
            }
        }

        static int sumKind(int a, int b) {
            return Math.max(INT, Math.max(a, b));
        }

        static boolean canSum(int kind, long a, long b) {
            return kind < FLOAT || !Floats.cancel(a, b, kind == DOUBLE);
        }

        static long sum(int kind, long a, long b) {
            if (kind == INT) {
                return (int) (a + b);
            }
            return kind == LONG ? a + b : Floats.sum(a, b, kind == DOUBLE);
        }
    }

    /**
     * FLOAT and DOUBLE (wide) by their BITS alone, since the language has no way from a double to its bits.
     * A magnitude is the BITS without the sign; as a number it grows with the value.
     */
    private static final class Floats {
        private static final int FLOAT_FRACTION = 23, DOUBLE_FRACTION = 52, FLOAT_BIAS = 127, DOUBLE_BIAS = 1023;
        private static final long FLOAT_INFINITY = 255L << FLOAT_FRACTION, DOUBLE_INFINITY = 2047L << DOUBLE_FRACTION;
        private static final long FLOAT_SIGN = -1L << 31;
        /** Bits below the last one that stays, by which it is rounded: the lowest holds all that fell off. */
        private static final int SPARE = 3;

        static boolean isNumber(long bits, boolean wide) {
            return magnitude(bits, wide) <= infinity(wide);
        }

        /** Whether both are infinite, of unlike signs: their sum were no number. */
        static boolean cancel(long a, long b, boolean wide) {
            return magnitude(a, wide) == infinity(wide) && magnitude(b, wide) == infinity(wide) && (a < 0) != (b < 0);
        }

        static long fromWhole(long whole, boolean wide) {
            if (whole == 0) {
                return 0;
            }
            // The least long has no positive one, but its bits are right when they are read without a sign.
            long size = whole < 0 ? -whole : whole;
            return signed(rounded(size, bias(wide) + fraction(wide) + SPARE, wide), whole < 0, wide);
        }

        static long toDouble(long floatBits) {
            long magnitude = magnitude(floatBits, false);
            boolean negative = floatBits < 0;
            if (magnitude == 0) {
                return signed(0, negative, true);
            }
            if (magnitude >= FLOAT_INFINITY) {
                return signed(DOUBLE_INFINITY, negative, true);
            }
            int exponent = exponent(magnitude, false) - FLOAT_BIAS - FLOAT_FRACTION
                    + DOUBLE_BIAS + DOUBLE_FRACTION + SPARE;
            return signed(rounded(significand(magnitude, false), exponent, true), negative, true);
        }

        static long sum(long a, long b, boolean wide) {
            boolean swap = magnitude(a, wide) < magnitude(b, wide);
            long first = swap ? b : a;
            long second = swap ? a : b;
            long big = magnitude(first, wide);
            long small = magnitude(second, wide);
            if (big >= infinity(wide)) {
                return first;
            }
            int exponent = exponent(big, wide);
            long total = significand(big, wide) << SPARE;
            long other = shiftedDown(significand(small, wide) << SPARE, exponent - exponent(small, wide));
            total = (first < 0) == (second < 0) ? total + other : total - other;
            if (total == 0) {
                return signed(0, first < 0 && second < 0, wide);
            }
            return signed(rounded(total, exponent, wide), first < 0, wide);
        }

        /** The magnitude nearest to total, whose lowest bit is worth 2 to the exponent less bias, fraction, SPARE. */
        private static long rounded(long total, int exponent, boolean wide) {
            int over = 63 - Long.numberOfLeadingZeros(total) - fraction(wide) - SPARE;
            int up = over > 0 ? -over : Math.min(-over, exponent - 1);
            long placed = up < 0 ? shiftedDown(total, -up) : total << up;
            long kept = placed >>> SPARE;
            long rest = placed & 7;
            if (rest > 4 || (rest == 4 && (kept & 1) == 1)) {
                kept++;
            }
            // The top bit of what is kept is itself 1 in the exponent's place, and a carry goes there too.
            return Math.min(((long) (exponent - up - 1) << fraction(wide)) + kept, infinity(wide));
        }

        private static long shiftedDown(long value, int by) {
            if (by >= 64) {
                return value == 0 ? 0 : 1;
            }
            long kept = value >>> by;
            return kept << by == value ? kept : kept | 1;
        }

        private static int fraction(boolean wide) {
            return wide ? DOUBLE_FRACTION : FLOAT_FRACTION;
        }

        private static int bias(boolean wide) {
            return wide ? DOUBLE_BIAS : FLOAT_BIAS;
        }

        private static long infinity(boolean wide) {
            return wide ? DOUBLE_INFINITY : FLOAT_INFINITY;
        }

        private static long magnitude(long bits, boolean wide) {
            return wide ? bits & Long.MAX_VALUE : bits & ~FLOAT_SIGN;
        }

        private static long signed(long magnitude, boolean negative, boolean wide) {
            return negative ? magnitude | (wide ? Long.MIN_VALUE : FLOAT_SIGN) : magnitude;
        }

        /** Those without a leading bit count as of the least exponent, 1. */
        private static int exponent(long magnitude, boolean wide) {
            return Math.max(1, (int) (magnitude >>> fraction(wide)));
        }

        private static long significand(long magnitude, boolean wide) {
            long leading = 1L << fraction(wide);
            long low = magnitude & (leading - 1);
            return magnitude < leading ? low : low | leading;
        }
    }
}
