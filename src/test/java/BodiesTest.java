/** Promise 13: which bodies can be told, of each kind. */
final class BodiesTest {
    private static final Check check = new Check("BodiesTest");
    private static final int[] NOT_THERE = {-1, 3, 99, Integer.MIN_VALUE, Integer.MAX_VALUE};

    public static void main(String[] args) {
        toldOnce();
        noMethod();
        nothingAndFailing();
        givingParams();
        givingFields();
        settingFields();
        fieldsOfObjects();
        callingOthers();
        callingObjects();
        adding();
        callingAbove();
        aboveIsTheOneAsTold();
        givingItems();
        check.end();
    }

    /** A new STATIC METHOD of type t, of a name that is not used else. */
    private static int made(ReflectMirror x, int t, int result, int... params) {
        return made(x, t, 5, result, params);
    }

    private static int made(ReflectMirror x, int t, int marks, int result, int[] params) {
        int[] p = {0, 0, 0};
        System.arraycopy(params, 0, p, 0, params.length);
        for (int name = 0; name < 20; name++) {
            int m = x.method(t, name, marks, result, params.length, p[0], p[1], p[2]);
            if (m >= 0) {
                return m;
            }
        }
        check.due("a method", -1, 0);
        return -1;
    }

    private static void toldOnce() {
        ReflectMirror x = new ReflectMirror();
        int a = x.type(8, 0, true);
        int m = made(x, a, 4, 4);
        check.due("not told", x.member(m, 10), 0);
        check.due("bad", x.body(m, 1, 1, 0), -1);
        check.due("told", x.body(m, 1, 0, 0), 1);
        check.due("told again", x.body(m, 0, 0, 0), -2);
        check.due("told again, bad", x.body(m, 1, 1, 0), -1);
        check.due("its kind", x.member(m, 10), 1);
        int n = made(x, a, 4, 4);
        check.due("0 counts as told", x.body(n, 0, -9, 99), 1);
        check.due("so no more", x.body(n, 1, 0, 0), -2);
        check.due("its kind", x.member(n, 10), 0);
        int none = made(x, a, 17, 4, new int[] {4});
        for (int kind = 0; kind <= 8; kind++) {
            check.due("of an abstract one, " + kind, x.body(none, kind, 0, 0), -1);
        }
    }

    private static void noMethod() {
        ReflectMirror x = new ReflectMirror();
        int a = x.type(8, 0, false);
        int f = x.field(a, 0, 0, 4);
        int m = made(x, a, 4, 4);
        check.due("a field", x.body(f, 0, 0, 0), -1);
        check.due("no member", x.body(-1, 0, 0, 0), -1);
        check.due("no member", x.body(2, 0, 0, 0), -1);
        for (int kind : new int[] {-1, 9, Integer.MIN_VALUE, Integer.MAX_VALUE}) {
            check.due("kind " + kind, x.body(m, kind, 0, 0), -1);
        }
    }

    private static void nothingAndFailing() {
        ReflectMirror x = new ReflectMirror();
        int a = x.type(8, 0, false);
        for (int result : new int[] {-1, 0, 6, 8}) {
            check.due("nothing into " + result, x.body(made(x, a, result), 0, 99, 99), 1);
        }
        int m = made(x, a, 8);
        for (int k : new int[] {-1, 0, 9, 10, 99}) {
            check.due("fails by " + k, x.body(m, 4, k, 0), -1);
        }
        for (int k = 1; k <= 8; k++) {
            check.due("fails by " + k, x.body(made(x, a, 8), 4, k, 99), 1);
        }
    }

    private static void givingParams() {
        ReflectMirror x = new ReflectMirror();
        int f = x.face(0);
        int a = x.type(8, 0, false);
        int b = x.type(a, 0, false);
        x.implement(b, f);
        int m = made(x, a, 7, 0, 4, a);
        check.due("a boolean into a double", x.body(m, 1, 0, 0), -1);
        check.due("a reference into a double", x.body(m, 1, 2, 0), -1);
        for (int i : NOT_THERE) {
            check.due("param " + i, x.body(m, 1, i, 0), -1);
        }
        check.due("an int into a double", x.body(m, 1, 1, 99), 1);
        check.due("a double into an int", x.body(made(x, a, 4, 7), 1, 0, 0), -1);
        check.due("a b into an a", x.body(made(x, a, a, b), 1, 0, 0), 1);
        check.due("a b into an f", x.body(made(x, a, f, b), 1, 0, 0), 1);
        check.due("an a into a b", x.body(made(x, a, b, a), 1, 0, 0), -1);
        check.due("an int into a root", x.body(made(x, a, 8, 4), 1, 0, 0), -1);
        check.due("anything given up", x.body(made(x, a, -1, a), 1, 0, 0), 1);
        check.due("but not what is not there", x.body(made(x, a, -1, 4), 1, 1, 0), -1);
    }

    private static void givingFields() {
        ReflectMirror x = new ReflectMirror();
        int a = x.type(8, 0, false);
        int b = x.type(8, 1, false);
        int ints = x.field(b, 0, 6, 4);
        int refs = x.field(b, 1, 4, b);
        check.due("a static one of another type", x.body(made(x, a, 7), 2, ints, 0), 1);
        check.due("does not widen", x.body(made(x, a, 3), 2, ints, 0), -1);
        check.due("a reference", x.body(made(x, a, 8), 2, refs, 0), 1);
        check.due("is not", x.body(made(x, a, a), 2, refs, 0), -1);
        check.due("given up", x.body(made(x, a, -1), 2, refs, 0), 1);
        int m = made(x, a, 8);
        check.due("a method", x.body(m, 2, m, 0), -1);
        for (int f : new int[] {-1, 99}) {
            check.due("no field " + f, x.body(m, 2, f, 0), -1);
        }
    }

    private static void settingFields() {
        ReflectMirror x = new ReflectMirror();
        int a = x.type(8, 0, false);
        int b = x.type(8, 1, false);
        int longs = x.field(b, 0, 14, 5);
        int refs = x.field(b, 1, 4, b);
        check.due("an int", x.body(made(x, a, b, 0, 4), 3, longs, 1), 1);
        check.due("a float", x.body(made(x, a, -1, 6), 3, longs, 0), -1);
        check.due("a reference", x.body(made(x, a, -1, b), 3, longs, 0), -1);
        check.due("a b", x.body(made(x, a, 4, b), 3, refs, 0), 1);
        check.due("an a", x.body(made(x, a, 4, a), 3, refs, 0), -1);
        int m = made(x, a, 4, 4, 4, 4);
        for (int i : NOT_THERE) {
            check.due("param " + i, x.body(m, 3, longs, i), -1);
        }
        check.due("a method", x.body(m, 3, m, 0), -1);
        check.due("no field", x.body(m, 3, -1, 0), -1);
        check.due("no field", x.body(m, 3, 99, 0), -1);
    }

    private static void fieldsOfObjects() {
        ReflectMirror x = new ReflectMirror();
        int a = x.type(8, 0, false);
        int b = x.type(a, 1, false);
        int c = x.type(8, 0, false);
        int[] ints = {4};
        int f = x.field(a, 0, 2, 4);
        for (int kind = 2; kind <= 3; kind++) {
            check.due("a's own", x.body(made(x, a, 0, 4, ints), kind, f, 0), 1);
            check.due("b is an a", x.body(made(x, b, 2, 4, ints), kind, f, 0), 1);
            check.due("c is no a", x.body(made(x, c, 0, 4, ints), kind, f, 0), -1);
            check.due("a static method", x.body(made(x, a, 4, 4, ints), kind, f, 0), -1);
        }
        int g = x.field(b, 0, 0, 4);
        check.due("a is no b", x.body(made(x, a, 0, 4, ints), 2, g, 0), -1);
    }

    private static void callingOthers() {
        ReflectMirror x = new ReflectMirror();
        int a = x.type(8, 0, false);
        int b = x.type(a, 1, false);
        int none = made(x, b, -1);
        int two = made(x, b, 4, 5, a);
        check.due("no params, no result", x.body(made(x, a, 8, 4), 5, none, 0), 1);
        check.due("its first two", x.body(made(x, a, 4, 3, b, 0), 5, two, 0), 1);
        check.due("a result that widens", x.body(made(x, a, 7, 3, b), 5, two, 0), 1);
        check.due("a result given up", x.body(made(x, a, -1, 3, b), 5, two, 0), 1);
        check.due("a result that does not go into it", x.body(made(x, a, 3, 3, b), 5, two, 0), -1);
        check.due("too few params", x.body(made(x, a, 4, 3), 5, two, 0), -1);
        check.due("a param that does not go", x.body(made(x, a, 4, 6, b), 5, two, 0), -1);
        check.due("a param that does not go", x.body(made(x, a, 4, 5, 8), 5, two, 0), -1);
        check.due("other order", x.body(made(x, a, 4, b, 3), 5, two, 0), -1);
        int m = made(x, a, 4);
        int f = x.field(a, 0, 4, 4);
        check.due("a field", x.body(m, 5, f, 0), -1);
        check.due("none", x.body(m, 5, -1, 0), -1);
        check.due("none", x.body(m, 5, 99, 0), -1);
        check.due("itself", x.body(m, 5, m, 0), 1);
    }

    private static void callingObjects() {
        ReflectMirror x = new ReflectMirror();
        int g = x.face(0);
        int a = x.type(8, 0, true);
        int b = x.type(a, 1, false);
        int c = x.type(8, 0, false);
        x.implement(a, g);
        int[] no = {};
        int ofG = made(x, g, 17, 4, no);
        int ofA = made(x, a, 16, 4, no);
        int ofB = made(x, b, 2, 4, no);
        check.due("b calls a's", x.body(made(x, b, 0, 4, no), 5, ofA, 0), 1);
        check.due("b calls g's", x.body(made(x, b, 0, 4, no), 5, ofG, 0), 1);
        check.due("a calls g's", x.body(made(x, a, 0, 4, no), 5, ofG, 0), 1);
        check.due("g calls g's", x.body(made(x, g, 1, 4, no), 5, ofG, 0), 1);
        check.due("g calls a's", x.body(made(x, g, 1, 4, no), 5, ofA, 0), -1);
        check.due("a calls b's", x.body(made(x, a, 0, 4, no), 5, ofB, 0), -1);
        check.due("c calls a's", x.body(made(x, c, 0, 4, no), 5, ofA, 0), -1);
        check.due("static b calls a's", x.body(made(x, b, 4, 4, no), 5, ofA, 0), -1);
        check.due("private b calls b's", x.body(made(x, b, 2, 4, no), 5, ofB, 0), 1);
    }

    private static void adding() {
        ReflectMirror x = new ReflectMirror();
        int[] sums = {4, 4, 4, 4, 5, 6, 7};
        for (int p = 1; p <= 7; p++) {
            int a = x.type(8, 0, false);
            for (int q = 1; q <= 7; q++) {
                int sum = Math.max(sums[p - 1], sums[q - 1]);
                int result = 1 + (p + q) % 7;
                int m = made(x, a, result, p, q);
                check.due("add " + p + " and " + q + " into " + result, x.body(m, 6, 0, 1), result >= sum ? 1 : -1);
            }
        }
        int a = x.type(8, 0, false);
        int m = made(x, a, 7, 4, 0, 8);
        check.due("one to itself", x.body(made(x, a, 4, 2), 6, 0, 0), 1);
        check.due("a boolean", x.body(m, 6, 0, 1), -1);
        check.due("a boolean", x.body(m, 6, 1, 0), -1);
        check.due("a reference", x.body(m, 6, 0, 2), -1);
        check.due("a reference", x.body(m, 6, 2, 0), -1);
        for (int i : NOT_THERE) {
            check.due("param " + i, x.body(m, 6, i, 0), -1);
            check.due("param " + i, x.body(m, 6, 0, i), -1);
        }
        check.due("given up", x.body(made(x, a, -1, 2, 7), 6, 0, 1), 1);
        check.due("given up, but no numbers", x.body(made(x, a, -1, 2, 0), 6, 0, 1), -1);
        check.due("into a root", x.body(made(x, a, 8, 2, 2), 6, 0, 1), -1);
    }

    private static void callingAbove() {
        ReflectMirror x = new ReflectMirror();
        int g = x.face(0);
        int h = x.face(0);
        int a = x.type(8, 0, true);
        int b = x.type(a, 1, false);
        x.implement(h, g);
        x.implement(a, h);
        int[] marksAbove = {0, 1, 3, 9, 2, 4, 5, 16, 17};
        for (int i = 0; i < marksAbove.length; i++) {
            x.method(a, i, marksAbove[i], 4, 1, 4, 0, 0);
            int m = x.method(b, i, 1, 4, 1, 4, 0, 0);
            check.due("above " + marksAbove[i], x.body(m, 7, 99, 99), i < 4 ? 1 : -1);
        }
        x.method(a, 10, 1, 4, 1, 4, 0, 0);
        check.due("another result", x.body(x.method(b, 10, 1, 5, 1, 4, 0, 0), 7, 0, 0), -1);
        check.due("a static one", x.body(x.method(b, 10, 5, 4, 1, 4, 0, 0), 7, 0, 0), -1);
        x.method(a, 11, 1, 4, 0, 0, 0, 0);
        check.due("a private one", x.body(x.method(b, 11, 2, 4, 0, 0, 0, 0), 7, 0, 0), 1);
        x.method(g, 12, 1, 4, 0, 0, 0, 0);
        check.due("a face's, above the parent", x.body(x.method(b, 12, 1, 4, 0, 0, 0, 0), 7, 0, 0), 1);
        check.due("a face's, of its own type", x.body(x.method(a, 12, 1, 4, 0, 0, 0, 0), 7, 0, 0), -1);
        check.due("a face has no parent", x.body(x.method(h, 12, 1, 4, 0, 0, 0, 0), 7, 0, 0), -1);
        x.method(g, 13, 5, 4, 0, 0, 0, 0);
        check.due("a face's static one", x.body(x.method(b, 13, 1, 4, 0, 0, 0, 0), 7, 0, 0), -1);
        x.method(g, 14, 1, 4, 0, 0, 0, 0);
        x.method(a, 14, 2, 4, 0, 0, 0, 0);
        check.due("a private one ahead of it", x.body(x.method(b, 14, 1, 4, 0, 0, 0, 0), 7, 0, 0), -1);
        check.due("none at all", x.body(x.method(b, 15, 1, 4, 0, 0, 0, 0), 7, 0, 0), -1);
    }

    private static void aboveIsTheOneAsTold() {
        ReflectMirror x = new ReflectMirror();
        int a = x.type(8, 0, false);
        int b = x.type(a, 0, false);
        int c = x.type(b, 0, false);
        int ofA = x.method(a, 0, 1, 4, 1, 4, 0, 0);
        check.due("1", x.body(ofA, 1, 0, 0), 1);
        int ofC = x.method(c, 0, 1, 4, 1, 4, 0, 0);
        check.due("7", x.body(ofC, 7, 0, 0), 1);
        int ofB = x.method(b, 0, 1, 4, 1, 4, 0, 0);
        check.due("4", x.body(ofB, 4, 3, 0), 1);
        int t = x.object(c);
        x.slot(0, 4, 17);
        check.due("a's is called, not b's", x.call(ofC, t, 1, 1), 1);
        check.due("bits(1)", x.bits(1), 17);
        check.due("count(3)", x.count(3), 2);
    }

    private static void givingItems() {
        ReflectMirror x = new ReflectMirror();
        int a = x.type(8, 0, false);
        int b = x.type(a, 0, false);
        int ints = x.rows(4);
        int bs = x.rows(b);
        int intRows = x.rows(ints);
        for (int place = 0; place <= 8; place++) {
            int want = place >= 1 && place <= 4 ? 1 : -1;
            check.due("an int by " + place, x.body(made(x, a, 5, ints, place), 8, 0, 1), want);
        }
        check.due("a b into an a", x.body(made(x, a, a, 4, bs), 8, 1, 0), 1);
        check.due("a b into a row", x.body(made(x, a, bs, 4, bs), 8, 1, 0), -1);
        check.due("a row of rows", x.body(made(x, a, ints, 4, intRows), 8, 1, 0), 1);
        check.due("an int into a short", x.body(made(x, a, 3, 4, ints), 8, 1, 0), -1);
        check.due("given up", x.body(made(x, a, -1, 4, bs), 8, 1, 0), 1);
        check.due("no rows", x.body(made(x, a, -1, 4, b), 8, 1, 0), -1);
        check.due("no rows", x.body(made(x, a, 4, 4, 8), 8, 1, 0), -1);
        int m = made(x, b, -1, 4, ints, 4);
        for (int i : NOT_THERE) {
            check.due("param " + i, x.body(m, 8, i, 0), -1);
            check.due("param " + i, x.body(m, 8, 1, i), -1);
        }
        check.due("rows by rows", x.body(m, 8, 1, 1), -1);
    }
}
