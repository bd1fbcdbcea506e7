/** Promises 35 to 37: calls, what they come to, what they end by, and the counts. */
final class CallsTest {
    private static final Check check = new Check("CallsTest");
    private static final int LEAST = Integer.MIN_VALUE;
    private static final int MOST = Integer.MAX_VALUE;

    public static void main(String[] args) {
        nothingBecomesTheResult();
        resultsWiden();
        givenUp();
        paramsWiden();
        refusedAndFailed();
        accessOfCalls();
        fieldsOfTheObject();
        bodiesAskNoAccess();
        goesToTheOneInForce();
        privateAndStaticGoToThemselves();
        callsAbove();
        passesParamsOn();
        failsByEachKind();
        whatFieldsBecameStays();
        noneInForce();
        deep();
        deepAlongAChain();
        sums();
        itemsOfParams();
        causeIsTheLatest();
        counts();
        check.end();
    }

    private static int method(ReflectMirror x, int t, int name, int marks, int result, int... params) {
        int[] p = {0, 0, 0};
        System.arraycopy(params, 0, p, 0, params.length);
        int want = x.count(1);
        int m = x.method(t, name, marks, result, params.length, p[0], p[1], p[2]);
        check.due("method(" + t + ", " + name + ")", m, want);
        return m;
    }

    private static void body(ReflectMirror x, int m, int kind, int a, int b) {
        check.due("body(" + m + ", " + kind + ", " + a + ", " + b + ")", x.body(m, kind, a, b), 1);
    }

    private static void dueSlot(ReflectMirror x, int slot, int kind, long bits) {
        check.due("kind(" + slot + ")", x.kind(slot), kind);
        check.due("bits(" + slot + ")", x.bits(slot), bits);
    }

    private static void dueCause(ReflectMirror x, int failure, int method, int within) {
        check.due("cause(0)", x.cause(0), failure);
        check.due("cause(1)", x.cause(1), method);
        check.due("cause(2)", x.cause(2), within);
    }

    private static void nothingBecomesTheResult() {
        ReflectMirror x = new ReflectMirror();
        int a = x.type(8, 0, false);
        int rows = x.rows(4);
        int none = method(x, a, 19, 5, -1);
        int held = x.field(a, 0, 5, 4);
        int[] results = {-1, 0, 1, 2, 3, 4, 5, 6, 7, 8, a, rows};
        for (int i = 0; i < results.length; i++) {
            int result = results[i];
            int kind = result < 0 ? 4 : Math.min(result, 8);
            long bits = kind == 8 ? -1 : 0;
            int untold = method(x, a, i, 5, result);
            int nothing = method(x, a, i, 5, result, 4);
            body(x, nothing, 0, 0, 0);
            int sets = method(x, a, i, 5, result, 4, 4);
            body(x, sets, 3, held, 0);
            int calls = method(x, a, i, 5, result, 4, 4, 4);
            body(x, calls, 5, none, 0);
            int[] all = {untold, nothing, sets, calls};
            for (int n = 0; n < 4; n++) {
                x.slot(6, 2, 99);
                check.due("call", x.call(all[n], -1, n, 6), 1);
                dueSlot(x, 6, kind, bits);
            }
        }
    }

    private static void resultsWiden() {
        ReflectMirror x = new ReflectMirror();
        int a = x.type(8, 0, false);
        int f = x.field(a, 0, 5, 2);
        int gives = method(x, a, 0, 5, 7, 6);
        body(x, gives, 1, 0, 0);
        x.slot(0, 6, Float.floatToIntBits(0.1f));
        check.due("call", x.call(gives, -1, 1, 0), 1);
        dueSlot(x, 0, 7, Double.doubleToLongBits(0.1f));
        x.slot(0, 2, -7);
        check.due("set", x.set(f, -1, 0), 1);
        int reads = method(x, a, 1, 5, 6);
        body(x, reads, 2, f, 0);
        check.due("call", x.call(reads, -1, 0, 5), 1);
        dueSlot(x, 5, 6, Float.floatToIntBits(-7f));
        int inner = method(x, a, 2, 5, 5, 5);
        body(x, inner, 1, 0, 0);
        int outer = method(x, a, 3, 5, 7, 3);
        body(x, outer, 5, inner, 0);
        x.slot(0, 3, -32768);
        check.due("call", x.call(outer, -1, 1, 1), 1);
        dueSlot(x, 1, 7, Double.doubleToLongBits(-32768));
        int big = method(x, a, 4, 5, 7, 5);
        body(x, big, 1, 0, 0);
        x.slot(0, 5, 9007199254740993L);
        check.due("at once, not by way of a float", x.call(big, -1, 1, 1), 1);
        dueSlot(x, 1, 7, Double.doubleToLongBits(9007199254740992.0));
        int root = method(x, a, 5, 5, 8, a);
        body(x, root, 1, 0, 0);
        int t = x.object(a);
        x.slot(0, 8, t);
        check.due("call", x.call(root, -1, 1, 2), 1);
        dueSlot(x, 2, 8, t);
        x.slot(0, 8, -1);
        check.due("call", x.call(root, -1, 1, 2), 1);
        dueSlot(x, 2, 8, -1);
    }

    private static void givenUp() {
        ReflectMirror x = new ReflectMirror();
        int a = x.type(8, 0, false);
        int ints = x.rows(4);
        int f = x.field(a, 0, 5, 4);
        x.slot(0, 4, 77);
        x.set(f, -1, 0);
        int param = method(x, a, 0, 5, -1, 4);
        body(x, param, 1, 0, 0);
        int field = method(x, a, 1, 5, -1, 4);
        body(x, field, 2, f, 0);
        int sum = method(x, a, 2, 5, -1, 4);
        body(x, sum, 6, 0, 0);
        int other = method(x, a, 3, 5, 4, 4);
        body(x, other, 1, 0, 0);
        int calls = method(x, a, 4, 5, -1, 4);
        body(x, calls, 5, other, 0);
        for (int m : new int[] {param, field, sum, calls}) {
            x.slot(7, 5, 3);
            check.due("call(" + m + ")", x.call(m, -1, 1, 7), 1);
            dueSlot(x, 7, 4, 0);
        }
        int through = method(x, a, 5, 5, 7, 4);
        body(x, through, 5, param, 0);
        check.due("what was given up is nothing", x.call(through, -1, 1, 7), 1);
        dueSlot(x, 7, 7, 0);
        int item = method(x, a, 6, 5, -1, ints, 4);
        body(x, item, 8, 0, 1);
        x.slot(0, 8, x.row(ints, 1));
        x.slot(1, 4, 0);
        check.due("an item given up", x.call(item, -1, 2, 7), 1);
        dueSlot(x, 7, 4, 0);
        x.slot(1, 4, 1);
        check.due("no such item all the same", x.call(item, -1, 2, 7), -19);
        dueCause(x, 3, item, 0);
    }

    private static void paramsWiden() {
        ReflectMirror x = new ReflectMirror();
        int a = x.type(8, 0, false);
        long[] one = {1, 1, 1, 1, 1, 1, Float.floatToIntBits(1f), Double.doubleToLongBits(1)};
        for (int to = 0; to < 8; to++) {
            int m = method(x, a, to, 5, to, to);
            body(x, m, 1, 0, 0);
            for (int from = 0; from < 8; from++) {
                x.slot(0, from, one[from]);
                x.slot(1, 3, 44);
                boolean wide = x.is(from, to) == 1;
                check.due("call " + from + " into " + to, x.call(m, -1, 1, 1), wide ? 1 : -12);
                dueSlot(x, 1, wide ? to : 3, wide ? one[to] : 44);
            }
            x.slot(0, 8, -1);
            check.due("nothing into a primitive", x.call(m, -1, 1, 1), -12);
        }
        int b = x.type(a, 0, false);
        int m = method(x, a, 8, 5, 8, a);
        body(x, m, 1, 0, 0);
        int[] things = {x.object(8), x.object(a), x.object(b), x.row(x.rows(a), 1), -1};
        int[] want = {-12, 1, 1, -12, 1};
        for (int i = 0; i < things.length; i++) {
            x.slot(0, 8, things[i]);
            check.due("call with " + things[i], x.call(m, -1, 1, 1), want[i]);
        }
        x.slot(0, 4, 0);
        check.due("an int into a reference", x.call(m, -1, 1, 1), -12);
    }

    private static void refusedAndFailed() {
        ReflectMirror x = new ReflectMirror();
        int a = x.type(8, 0, false);
        int b = x.type(8, 0, false);
        int rows = x.rows(a);
        int field = x.field(a, 0, 1, 4);
        int m = method(x, a, 0, 1, 4, 4, 4);
        int s = method(x, a, 1, 5, 4, 4, 4);
        int hidden = method(x, a, 2, 2, 4, 4, 4);
        int ofA = x.object(a);
        int ofB = x.object(b);
        int row = x.row(rows, 1);
        int[][] bad = {{field, ofA, 2, 0}, {-1, ofA, 2, 0}, {99, ofA, 2, 0}, {m, -2, 2, 0}, {m, 3, 2, 0}, {m, ofA, -1, 0},
            {m, ofA, 4, 0}, {m, ofA, 2, -1}, {m, ofA, 2, 8}, {s, 3, 2, 0}, {hidden, ofA, 4, 0}, {LEAST, MOST, LEAST, MOST}};
        for (int[] p : bad) {
            check.due("call(" + p[0] + ", " + p[1] + ", " + p[2] + ", " + p[3] + ")", x.call(p[0], p[1], p[2], p[3]), -1);
        }
        check.due("access first", x.call(hidden, -1, 0, 0), -16);
        check.due("null ahead of argument", x.call(m, -1, 0, 0), -11);
        check.due("not of the type", x.call(m, ofB, 2, 0), -12);
        check.due("a row", x.call(m, row, 2, 0), -12);
        for (int n = 0; n <= 3; n++) {
            check.due("n " + n, x.call(m, ofA, n, 7), n == 2 ? 1 : -12);
            for (int t : new int[] {-1, ofA, ofB, row}) {
                check.due("static, n " + n + " by " + t, x.call(s, t, n, 7), n == 2 ? 1 : -12);
            }
        }
        x.slot(1, 5, 0);
        check.due("the second slot does not go", x.call(m, ofA, 2, 7), -12);
        check.due("no cause yet", x.cause(0), 0);
        check.due("begun", x.count(3), 5);
        check.due("failed by a cause", x.count(4), 0);
    }

    private static void accessOfCalls() {
        ReflectMirror x = new ReflectMirror();
        int a = x.type(8, 1, false);
        int b = x.type(a, 2, false);
        int m = method(x, a, 0, 3, -1);
        int s = method(x, a, 1, 7, -1);
        int p = method(x, a, 2, 2, -1);
        int ofA = x.object(a);
        int ofB = x.object(b);
        check.due("by root", x.call(m, ofB, 0, 0), -16);
        x.caller(b);
        check.due("by b for an a", x.call(m, ofA, 0, 0), -16);
        check.due("by b for nothing", x.call(m, -1, 0, 0), -16);
        check.due("by b for a b", x.call(m, ofB, 0, 0), 1);
        check.due("static, by b", x.call(s, -1, 0, 0), 1);
        check.due("private, by b", x.call(p, ofB, 0, 0), -16);
        x.open(p, true);
        check.due("private, opened", x.call(p, ofB, 0, 0), 1);
        x.open(m, true);
        check.due("opened", x.call(m, ofA, 0, 0), 1);
        check.due("opened, null", x.call(m, -1, 0, 0), -11);
    }

    private static void fieldsOfTheObject() {
        ReflectMirror x = new ReflectMirror();
        int a = x.type(8, 0, false);
        int b = x.type(a, 0, false);
        int f = x.field(a, 0, 2, 5);
        int reads = method(x, b, 0, 1, 7);
        body(x, reads, 2, f, 0);
        int writes = method(x, b, 1, 1, 8, 0, 3);
        body(x, writes, 3, f, 1);
        int one = x.object(b);
        int two = x.object(b);
        x.slot(0, 0, 1);
        x.slot(1, 2, -9);
        check.due("writes", x.call(writes, two, 2, 3), 1);
        dueSlot(x, 3, 8, -1);
        check.due("reads two", x.call(reads, two, 0, 3), 1);
        dueSlot(x, 3, 7, Double.doubleToLongBits(-9));
        check.due("reads one", x.call(reads, one, 0, 3), 1);
        dueSlot(x, 3, 7, 0);
        x.open(f, true);
        check.due("get", x.get(f, two, 5, 4), 1);
        dueSlot(x, 4, 5, -9);
    }

    private static void bodiesAskNoAccess() {
        ReflectMirror x = new ReflectMirror();
        int g = x.face(3);
        int a = x.type(8, 1, false);
        int b = x.type(8, 2, false);
        int kept = x.field(a, 0, 14, 4);
        int ofFace = x.field(g, 0, 13, 8);
        int hidden = method(x, a, 0, 6, 4, 4);
        body(x, hidden, 3, kept, 0);
        int calls = method(x, b, 0, 5, 4, 4);
        body(x, calls, 5, hidden, 0);
        int sets = method(x, b, 1, 5, -1, b);
        body(x, sets, 3, ofFace, 0);
        x.slot(0, 4, 12);
        check.due("calls", x.call(calls, -1, 1, 1), 1);
        x.open(kept, true);
        check.due("get", x.get(kept, -1, 4, 1), 1);
        dueSlot(x, 1, 4, 12);
        x.slot(0, 8, x.object(b));
        check.due("sets", x.call(sets, -1, 1, 1), 1);
        check.due("get", x.get(ofFace, -1, 8, 1), 1);
        dueSlot(x, 1, 8, 0);
    }

    /** A METHOD that answers by its own BODY: 4 FAILS by k, so that cause(1) tells which one ran. */
    private static void failing(ReflectMirror x, int m, int k) {
        body(x, m, 4, k, 0);
    }

    private static void goesToTheOneInForce() {
        ReflectMirror x = new ReflectMirror();
        int g = x.face(0);
        int a = x.type(8, 0, true);
        int b = x.type(a, 1, false);
        int c = x.type(b, 0, false);
        x.implement(a, g);
        int ofG = method(x, g, 0, 17, 4);
        int ofA = method(x, a, 0, 17, 4);
        int ofB = method(x, b, 0, 1, 4);
        int ofC = method(x, c, 0, 1, 4);
        failing(x, ofB, 1);
        failing(x, ofC, 2);
        int through = method(x, a, 1, 1, 4);
        body(x, through, 5, ofG, 0);
        int onB = x.object(b);
        int onC = x.object(c);
        for (int m : new int[] {ofG, ofA, ofB}) {
            check.due("for b", x.call(m, onB, 0, 0), -19);
            dueCause(x, 1, ofB, 0);
            check.due("for c", x.call(m, onC, 0, 0), -19);
            dueCause(x, 2, ofC, 0);
        }
        check.due("through a, for b", x.call(through, onB, 0, 0), -19);
        dueCause(x, 1, ofB, 1);
        check.due("through a, for c", x.call(through, onC, 0, 0), -19);
        dueCause(x, 2, ofC, 1);
    }

    private static void privateAndStaticGoToThemselves() {
        ReflectMirror x = new ReflectMirror();
        int a = x.type(8, 0, false);
        int b = x.type(a, 0, false);
        int p = method(x, a, 0, 2, 4);
        int s = method(x, a, 1, 5, 4);
        int overP = method(x, b, 0, 1, 4);
        int overS = method(x, b, 1, 5, 4);
        failing(x, p, 1);
        failing(x, s, 2);
        failing(x, overP, 3);
        failing(x, overS, 4);
        int throughP = method(x, a, 2, 1, 4);
        body(x, throughP, 5, p, 0);
        int throughS = method(x, a, 3, 1, 4);
        body(x, throughS, 5, s, 0);
        int t = x.object(b);
        x.caller(a);
        int[] told = {p, s, throughP, throughS, overP};
        int[][] want = {{1, p, 0}, {2, s, 0}, {1, p, 1}, {2, s, 1}, {3, overP, 0}};
        for (int i = 0; i < told.length; i++) {
            check.due("call(" + told[i] + ")", x.call(told[i], t, 0, 0), -19);
            dueCause(x, want[i][0], want[i][1], want[i][2]);
        }
    }

    private static void callsAbove() {
        ReflectMirror x = new ReflectMirror();
        int g = x.face(0);
        int a = x.type(8, 0, false);
        int b = x.type(a, 0, false);
        int c = x.type(b, 0, false);
        int d = x.type(c, 0, false);
        x.implement(a, g);
        int ofG = method(x, g, 0, 1, 5, 5);
        body(x, ofG, 1, 0, 0);
        int ofB = method(x, b, 0, 1, 5, 5);
        body(x, ofB, 7, 0, 0);
        int ofD = method(x, d, 0, 1, 5, 5);
        body(x, ofD, 7, 0, 0);
        x.slot(0, 1, 65);
        check.due("for d", x.call(ofG, x.object(d), 1, 2), 1);
        dueSlot(x, 2, 5, 65);
        check.due("begun", x.count(3), 3);
        check.due("for c", x.call(ofG, x.object(c), 1, 2), 1);
        check.due("begun", x.count(3), 5);
        check.due("for a", x.call(ofG, x.object(a), 1, 2), 1);
        check.due("begun", x.count(3), 6);
        int fails = method(x, a, 1, 1, -1);
        failing(x, fails, 8);
        int over = method(x, d, 1, 1, -1);
        body(x, over, 7, 0, 0);
        check.due("fails above", x.call(fails, 0, 0, 2), -19);
        dueCause(x, 8, fails, 1);
    }

    private static void passesParamsOn() {
        ReflectMirror x = new ReflectMirror();
        int a = x.type(8, 0, false);
        int inner = method(x, a, 0, 5, 7, 5, 6, 7);
        body(x, inner, 1, 1, 0);
        int middle = method(x, a, 1, 5, 7, 4, 5, 6);
        body(x, middle, 5, inner, 0);
        int outer = method(x, a, 2, 5, 7, 2, 3, 1);
        body(x, outer, 5, middle, 0);
        x.slot(0, 2, 1);
        x.slot(1, 2, -2);
        x.slot(2, 1, 3);
        check.due("the second", x.call(outer, -1, 3, 7), 1);
        dueSlot(x, 7, 7, Double.doubleToLongBits(-2));
        int big = method(x, a, 3, 5, 7, 5, 5, 5);
        body(x, big, 5, inner, 0);
        x.slot(0, 5, 0);
        x.slot(1, 5, 16777217);
        x.slot(2, 5, 0);
        check.due("by way of a float param", x.call(big, -1, 3, 7), 1);
        dueSlot(x, 7, 7, Double.doubleToLongBits(16777216));
        int first = method(x, a, 4, 5, 5, 5);
        body(x, first, 1, 0, 0);
        int fewer = method(x, a, 5, 5, 5, 5, 5, 5);
        body(x, fewer, 5, first, 0);
        x.slot(0, 5, -1);
        check.due("the first alone", x.call(fewer, -1, 3, 7), 1);
        dueSlot(x, 7, 5, -1);
    }

    private static void failsByEachKind() {
        ReflectMirror x = new ReflectMirror();
        int a = x.type(8, 0, false);
        for (int k = 1; k <= 8; k++) {
            int m = method(x, a, k, 5, 7);
            failing(x, m, k);
            x.slot(3, 0, 1);
            check.due("fails by " + k, x.call(m, -1, 0, 3), -19);
            dueCause(x, k, m, 0);
            dueSlot(x, 3, 0, 1);
            check.due("begun", x.count(3), k);
            check.due("failed", x.count(4), k);
        }
    }

    private static void whatFieldsBecameStays() {
        ReflectMirror x = new ReflectMirror();
        int a = x.type(8, 0, false);
        int b = x.type(a, 0, false);
        int f = x.field(a, 0, 1, 4);
        int sets = method(x, a, 0, 1, 4, 4);
        body(x, sets, 3, f, 0);
        int t = x.object(b);
        x.slot(0, 4, 5);
        check.due("sets", x.call(sets, t, 1, 1), 1);
        int over = method(x, b, 0, 1, 4, 4);
        failing(x, over, 3);
        check.due("fails", x.call(sets, t, 1, 1), -19);
        check.due("get", x.get(f, t, 4, 1), 1);
        dueSlot(x, 1, 4, 5);
    }

    private static void noneInForce() {
        ReflectMirror x = new ReflectMirror();
        int g = x.face(0);
        int a = x.type(8, 0, true);
        int b = x.type(a, 0, false);
        x.implement(a, g);
        int ofG = method(x, g, 0, 17, 4, 4);
        int ofA = method(x, a, 1, 16, 4, 4);
        int through = method(x, a, 2, 1, 4, 4);
        body(x, through, 5, ofG, 0);
        int twice = method(x, b, 3, 1, 4, 4);
        body(x, twice, 5, through, 0);
        int t = x.object(b);
        check.due("null first", x.call(ofG, -1, 1, 1), -11);
        check.due("none of g", x.call(ofG, t, 1, 1), -19);
        dueCause(x, 7, ofG, 0);
        check.due("begun", x.count(3), 0);
        check.due("none of a", x.call(ofA, t, 1, 1), -19);
        dueCause(x, 7, ofA, 0);
        check.due("through", x.call(through, t, 1, 1), -19);
        dueCause(x, 7, ofG, 1);
        check.due("begun", x.count(3), 1);
        check.due("twice", x.call(twice, t, 1, 1), -19);
        dueCause(x, 7, ofG, 2);
        check.due("begun", x.count(3), 3);
        check.due("failed", x.count(4), 4);
    }

    private static void deep() {
        ReflectMirror x = new ReflectMirror();
        int a = x.type(8, 0, false);
        int b = x.type(a, 0, false);
        int m = method(x, a, 0, 1, 4);
        int over = method(x, b, 0, 1, 4);
        body(x, over, 5, m, 0);
        int t = x.object(b);
        check.due("the one that was to be called, as told", x.call(over, t, 0, 0), -19);
        dueCause(x, 10, m, 12);
        check.due("begun", x.count(3), 12);
        int one = method(x, a, 1, 5, 4);
        int two = method(x, a, 2, 5, 4);
        body(x, one, 5, two, 0);
        body(x, two, 5, one, 0);
        check.due("by turns", x.call(one, -1, 0, 0), -19);
        dueCause(x, 10, one, 12);
        check.due("by turns", x.call(two, -1, 0, 0), -19);
        dueCause(x, 10, two, 12);
        check.due("begun", x.count(3), 36);
    }

    private static void deepAlongAChain() {
        ReflectMirror x = new ReflectMirror();
        int a = x.type(8, 0, false);
        int before = method(x, a, 0, 5, 5, 5);
        body(x, before, 1, 0, 0);
        for (int i = 1; i <= 13; i++) {
            int m = method(x, a, i, 5, 5, 5);
            body(x, m, 5, before, 0);
            before = m;
        }
        x.slot(0, 4, 31);
        check.due("twelve in all", x.call(11, -1, 1, 1), 1);
        dueSlot(x, 1, 5, 31);
        check.due("begun", x.count(3), 12);
        check.due("thirteen in all", x.call(12, -1, 1, 2), -19);
        dueCause(x, 10, 0, 12);
        dueSlot(x, 2, 4, 0);
        check.due("begun", x.count(3), 24);
        check.due("fourteen in all", x.call(13, -1, 1, 2), -19);
        dueCause(x, 10, 1, 12);
        ReflectMirror y = new ReflectMirror();
        int b = y.type(8, 0, false);
        int low = y.type(b, 0, false);
        for (int i = 2; i <= 14; i++) {
            int over = y.type(low, 0, false);
            low = over;
        }
        for (int t = 9; t <= low; t++) {
            int m = method(y, t, 0, 1, -1);
            check.due("above", y.body(m, 7, 0, 0), t == 9 ? -1 : 1);
        }
        check.due("twelve above one another", y.call(0, y.object(20), 0, 0), 1);
        check.due("thirteen above one another", y.call(0, y.object(21), 0, 0), -19);
        dueCause(y, 10, 0, 12);
        check.due("fourteen above one another", y.call(0, y.object(22), 0, 0), -19);
        dueCause(y, 10, 1, 12);
    }

    private static void sums() {
        ReflectMirror x = new ReflectMirror();
        int a = x.type(8, 0, false);
        int chars = method(x, a, 0, 5, 4, 1, 1);
        int ints = method(x, a, 1, 5, 5, 4, 4);
        int longs = method(x, a, 2, 5, 5, 5, 3);
        int bytes = method(x, a, 3, 5, 7, 2);
        for (int m : new int[] {chars, ints, longs}) {
            body(x, m, 6, 0, 1);
        }
        body(x, bytes, 6, 0, 0);
        x.slot(0, 1, 65535);
        x.slot(1, 1, 65535);
        check.due("chars", x.call(chars, -1, 2, 2), 1);
        dueSlot(x, 2, 4, 131070);
        x.slot(0, 4, MOST);
        x.slot(1, 4, 1);
        check.due("ints wrap, then widen", x.call(ints, -1, 2, 2), 1);
        dueSlot(x, 2, 5, LEAST);
        x.slot(0, 5, Long.MIN_VALUE);
        x.slot(1, 3, -1);
        check.due("longs wrap", x.call(longs, -1, 2, 2), 1);
        dueSlot(x, 2, 5, Long.MAX_VALUE);
        x.slot(0, 2, -128);
        check.due("bytes are added as ints", x.call(bytes, -1, 1, 2), 1);
        dueSlot(x, 2, 7, Double.doubleToLongBits(-256));
        int floats = method(x, a, 4, 5, -1, 6, 6);
        body(x, floats, 6, 0, 1);
        x.slot(0, 6, Float.floatToIntBits(Float.POSITIVE_INFINITY));
        x.slot(1, 6, Float.floatToIntBits(Float.NEGATIVE_INFINITY));
        check.due("no number, though given up", x.call(floats, -1, 2, 2), -19);
        dueCause(x, 2, floats, 0);
        check.due("unlike signs the other way", x.slot(0, 6, Float.floatToIntBits(Float.NEGATIVE_INFINITY)), 1);
        check.due("a number", x.call(floats, -1, 2, 2), 1);
    }

    private static void itemsOfParams() {
        ReflectMirror x = new ReflectMirror();
        int a = x.type(8, 0, false);
        int b = x.type(a, 0, false);
        int shorts = x.rows(3);
        int as = x.rows(a);
        int bs = x.rows(b);
        int ofShorts = method(x, a, 0, 5, 6, 2, shorts);
        body(x, ofShorts, 8, 1, 0);
        int ofAs = method(x, a, 1, 5, 8, as, 1);
        body(x, ofAs, 8, 0, 1);
        int row = x.row(shorts, 3);
        x.slot(0, 3, -4);
        x.put(row, 2, 0);
        x.slot(1, 8, row);
        for (int i = -1; i <= 3; i++) {
            x.slot(0, 2, i);
            boolean there = i >= 0 && i < 3;
            check.due("item " + i, x.call(ofShorts, -1, 2, 2), there ? 1 : -19);
            if (there) {
                dueSlot(x, 2, 6, i == 2 ? Float.floatToIntBits(-4f) : 0);
            } else {
                dueCause(x, 3, ofShorts, 0);
            }
        }
        x.slot(1, 8, -1);
        check.due("null ahead of index", x.call(ofShorts, -1, 2, 2), -19);
        dueCause(x, 1, ofShorts, 0);
        int ofB = x.object(b);
        int rowOfBs = x.row(bs, 2);
        x.slot(0, 8, ofB);
        x.store(rowOfBs, 1, 0);
        x.slot(0, 8, rowOfBs);
        x.slot(1, 1, 1);
        check.due("rows of b are rows of a", x.call(ofAs, -1, 2, 2), 1);
        dueSlot(x, 2, 8, ofB);
        x.slot(1, 1, 0);
        check.due("nothing", x.call(ofAs, -1, 2, 2), 1);
        dueSlot(x, 2, 8, -1);
        x.slot(0, 8, row);
        check.due("rows of shorts are not", x.call(ofAs, -1, 2, 2), -12);
    }

    private static void causeIsTheLatest() {
        ReflectMirror x = new ReflectMirror();
        int a = x.type(8, 0, false);
        int ok = method(x, a, 0, 5, -1);
        int fails = method(x, a, 1, 5, -1);
        failing(x, fails, 6);
        int through = method(x, a, 2, 5, -1);
        body(x, through, 5, fails, 0);
        dueCause(x, 0, 0, 0);
        check.due("fails", x.call(through, -1, 0, 0), -19);
        dueCause(x, 6, fails, 1);
        check.due("ok", x.call(ok, -1, 0, 0), 1);
        check.due("argument", x.call(ok, -1, 1, 0), -12);
        dueCause(x, 6, fails, 1);
        for (int what : new int[] {-1, 3, LEAST, MOST}) {
            check.due("cause(" + what + ")", x.cause(what), -1);
        }
    }

    private static void counts() {
        ReflectMirror x = new ReflectMirror();
        int a = x.type(8, 0, false);
        x.field(a, 0, 1, 4);
        x.method(a, 0, 5, -1, 0, 0, 0, 0);
        x.field(a, 1, 1, 4);
        x.object(a);
        x.row(x.rows(a), 2);
        x.call(1, -1, 0, 0);
        int[] want = {11, 3, 2, 1, 0, 2};
        for (int what = 0; what <= 5; what++) {
            check.due("count(" + what + ")", x.count(what), want[what]);
        }
        for (int what : new int[] {-1, 6, LEAST, MOST}) {
            check.due("count(" + what + ")", x.count(what), -1);
        }
        check.due("BAD", ReflectMirror.BAD, -1);
        check.due("NO", ReflectMirror.NO, -2);
        check.due("FULL", ReflectMirror.FULL, -3);
        check.due("NONE", ReflectMirror.NONE, -1);
    }
}
