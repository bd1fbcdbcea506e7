/** Promises 1 to 10: a new object, and the types. */
final class TypesTest {
    private static final Check check = new Check("TypesTest");

    public static void main(String[] args) {
        aNewObject();
        classes();
        faces();
        rows();
        implementing();
        closedByObjectsAlone();
        ancestors();
        manyWaysThroughFaces();
        longChainOfFaces();
        isAmongPrimitives();
        isAmongReferences();
        isAmongRows();
        meeting();
        names();
        check.end();
    }

    private static void aNewObject() {
        ReflectMirror x = new ReflectMirror();
        check.due("count(0)", x.count(0), 9);
        for (int what = 1; what <= 5; what++) {
            check.due("count(" + what + ")", x.count(what), 0);
        }
        for (int t = 0; t <= 8; t++) {
            check.due("about(" + t + ", 0)", x.about(t, 0), t < 8 ? 0 : 1);
            for (int what : new int[] {1, 2, 7, 8, 9}) {
                check.due("about(" + t + ", " + what + ")", x.about(t, what), -1);
            }
            for (int what : new int[] {3, 4, 6}) {
                check.due("about(" + t + ", " + what + ")", x.about(t, what), 0);
            }
            check.due("about(" + t + ", 5)", x.about(t, 5), t < 8 ? 0 : 1);
        }
        check.due("about(9, 0)", x.about(9, 0), -1);
        check.due("caller(8)", x.caller(8), 8);
        for (int slot = 0; slot < 8; slot++) {
            check.due("kind(" + slot + ")", x.kind(slot), 4);
            check.due("bits(" + slot + ")", x.bits(slot), 0);
        }
        for (int what = 0; what <= 2; what++) {
            check.due("cause(" + what + ")", x.cause(what), 0);
        }
    }

    private static void classes() {
        ReflectMirror x = new ReflectMirror();
        check.due("type(8, 3, false)", x.type(8, 3, false), 9);
        check.due("type(9, 0, true)", x.type(9, 0, true), 10);
        check.due("about(9, 0)", x.about(9, 0), 1);
        check.due("about(10, 0)", x.about(10, 0), 2);
        check.due("about(9, 1)", x.about(9, 1), 8);
        check.due("about(10, 1)", x.about(10, 1), 9);
        check.due("about(9, 3)", x.about(9, 3), 3);
        check.due("about(10, 3)", x.about(10, 3), 0);
        check.due("about(10, 2)", x.about(10, 2), -1);
        check.due("type of an abstract", x.type(10, 1, false), 11);
        check.due("face", x.face(0), 12);
        check.due("rows", x.rows(9), 13);
        for (int parent : new int[] {-1, 0, 7, 12, 13, 14, Integer.MIN_VALUE, Integer.MAX_VALUE}) {
            check.due("type(" + parent + ", 0, false)", x.type(parent, 0, false), -1);
        }
        for (int pack : new int[] {-1, 4, Integer.MIN_VALUE, Integer.MAX_VALUE}) {
            check.due("type(8, " + pack + ", false)", x.type(8, pack, false), -1);
        }
        check.due("count(0)", x.count(0), 14);
        for (int t = 14; t < 60; t++) {
            check.due("type", x.type(t - 5 > 13 ? t - 5 : 8, 0, false), t);
        }
        check.due("type when full", x.type(8, 0, false), -3);
        check.due("type, bad ahead of full", x.type(8, 4, false), -1);
        check.due("type, bad ahead of full", x.type(60, 0, false), -1);
        check.due("face when full", x.face(0), -3);
        check.due("face, bad ahead of full", x.face(-1), -1);
        check.due("rows when full", x.rows(8), -3);
        check.due("rows when full, but there", x.rows(9), 13);
        check.due("rows, bad ahead of full", x.rows(60), -1);
        check.due("rows not told by that", x.rows(8), -3);
        check.due("count(0)", x.count(0), 60);
    }

    private static void faces() {
        ReflectMirror x = new ReflectMirror();
        for (int pack = 0; pack <= 3; pack++) {
            check.due("face(" + pack + ")", x.face(pack), 9 + pack);
            check.due("about package", x.about(9 + pack, 3), pack);
        }
        check.due("face(4)", x.face(4), -1);
        check.due("face(-1)", x.face(-1), -1);
        check.due("about(9, 0)", x.about(9, 0), 3);
        check.due("about(9, 1)", x.about(9, 1), -1);
        check.due("about(9, 2)", x.about(9, 2), -1);
        check.due("about(9, 5)", x.about(9, 5), 2);
        check.due("count(0)", x.count(0), 13);
    }

    private static void rows() {
        ReflectMirror x = new ReflectMirror();
        x.type(8, 2, false);
        check.due("rows(9)", x.rows(9), 10);
        check.due("rows(9) again", x.rows(9), 10);
        check.due("rows(10)", x.rows(10), 11);
        check.due("rows(0)", x.rows(0), 12);
        check.due("rows(8)", x.rows(8), 13);
        check.due("rows(-1)", x.rows(-1), -1);
        check.due("rows(14)", x.rows(14), -1);
        check.due("about(11, 0)", x.about(11, 0), 4);
        check.due("about(11, 1)", x.about(11, 1), 8);
        check.due("about(11, 2)", x.about(11, 2), 10);
        check.due("about(12, 2)", x.about(12, 2), 0);
        check.due("about(11, 3)", x.about(11, 3), 2);
        check.due("about(12, 3)", x.about(12, 3), 0);
        check.due("about(11, 4)", x.about(11, 4), 0);
        check.due("about(11, 5)", x.about(11, 5), 2);
        check.due("ancestor(11, 0)", x.ancestor(11, 0), 11);
        check.due("ancestor(11, 1)", x.ancestor(11, 1), 8);
    }

    private static void implementing() {
        ReflectMirror x = new ReflectMirror();
        for (int f = 9; f <= 13; f++) {
            x.face(0);
        }
        x.type(8, 0, false);
        x.rows(14);
        x.face(0);
        check.due("implement(14, 10)", x.implement(14, 10), 1);
        check.due("implement(14, 9)", x.implement(14, 9), 2);
        check.due("implement again", x.implement(14, 10), -2);
        check.due("implement(14, 12)", x.implement(14, 12), 3);
        check.due("implement a fourth", x.implement(14, 13), -3);
        check.due("implement: no ahead of full", x.implement(14, 9), -2);
        check.due("implement: bad ahead of full", x.implement(14, 16), -1);
        check.due("about(14, 4)", x.about(14, 4), 3);
        check.due("about(14, 7)", x.about(14, 7), 10);
        check.due("about(14, 8)", x.about(14, 8), 9);
        check.due("about(14, 9)", x.about(14, 9), 12);
        check.due("about(14, 10)", x.about(14, 10), -1);
        check.due("about(14, -1)", x.about(14, -1), -1);
        check.due("implement by a face", x.implement(13, 12), 1);
        check.due("about(13, 7)", x.about(13, 7), 12);
        check.due("about(13, 8)", x.about(13, 8), -1);
        int[][] bad = {{8, 9}, {15, 9}, {4, 9}, {-1, 9}, {17, 9}, {14, 8}, {14, 14}, {14, 15}, {14, 4}, {14, -1},
            {14, 17}, {12, 13}, {12, 12}, {14, 16}, {Integer.MAX_VALUE, Integer.MIN_VALUE}};
        for (int[] b : bad) {
            check.due("implement(" + b[0] + ", " + b[1] + ")", x.implement(b[0], b[1]), -1);
        }
        check.due("row", x.row(15, 0), 0);
        check.due("implement with a thing there", x.implement(16, 9), -2);
        check.due("implement, bad ahead of no", x.implement(8, 9), -1);
        check.due("about(16, 4)", x.about(16, 4), 0);
    }

    private static void closedByObjectsAlone() {
        ReflectMirror x = new ReflectMirror();
        x.face(0);
        x.face(0);
        x.type(8, 0, true);
        x.type(11, 0, false);
        x.type(12, 0, false);
        x.type(11, 0, false);
        x.rows(12);
        x.implement(10, 9);
        x.implement(11, 10);
        check.due("a row", x.row(15, 2), 0);
        for (int t = 0; t <= 15; t++) {
            check.due("open " + t, x.about(t, 6), 0);
        }
        check.due("object(12)", x.object(12), 1);
        int[] closed = {8, 9, 10, 11, 12};
        for (int t = 0; t <= 15; t++) {
            int want = 0;
            for (int c : closed) {
                want = c == t ? 1 : want;
            }
            check.due("about(" + t + ", 6)", x.about(t, 6), want);
        }
    }

    private static void ancestors() {
        ReflectMirror x = new ReflectMirror();
        int a = x.face(0);
        int b = x.face(0);
        int c = x.face(0);
        int d = x.face(0);
        x.implement(c, b);
        x.implement(c, a);
        x.implement(d, a);
        int p = x.type(8, 0, false);
        int q = x.type(p, 0, false);
        x.implement(p, d);
        x.implement(q, c);
        x.implement(q, d);
        dueAncestors(x, c, c, b, a, 8);
        dueAncestors(x, d, d, a, 8);
        dueAncestors(x, p, p, 8, d, a);
        dueAncestors(x, q, q, p, 8, d, a, c, b);
        dueAncestors(x, 8, 8);
        dueAncestors(x, 4);
        int r = x.rows(q);
        dueAncestors(x, r, r, 8);
        check.due("ancestor(-1, 0)", x.ancestor(-1, 0), -1);
        check.due("ancestor(99, 0)", x.ancestor(99, 0), -1);
        int e = x.face(0);
        x.implement(e, d);
        x.implement(e, c);
        dueAncestors(x, e, e, d, a, c, b, 8);
    }

    private static void dueAncestors(ReflectMirror x, int t, int... want) {
        check.due("about(" + t + ", 5)", x.about(t, 5), want.length);
        for (int i = 0; i < want.length; i++) {
            check.due("ancestor(" + t + ", " + i + ")", x.ancestor(t, i), want[i]);
        }
        check.due("ancestor past the end", x.ancestor(t, want.length), -1);
        check.due("ancestor(" + t + ", -1)", x.ancestor(t, -1), -1);
        check.due("ancestor far past the end", x.ancestor(t, Integer.MAX_VALUE), -1);
    }

    /** Were each way walked, there would be some ten to the thirteenth of them. */
    private static void manyWaysThroughFaces() {
        ReflectMirror x = new ReflectMirror();
        for (int f = 9; f <= 58; f++) {
            x.face(0);
            for (int up = 1; up <= 3 && f - up >= 9; up++) {
                x.implement(f, f - up);
            }
        }
        int t = x.type(8, 0, false);
        x.implement(t, 58);
        check.due("about(59, 5)", x.about(t, 5), 52);
        check.due("ancestor(59, 51)", x.ancestor(t, 51), 9);
        check.due("ancestor(58, 50)", x.ancestor(58, 50), 8);
        check.due("is(59, 9)", x.is(t, 9), 1);
        check.due("is(9, 59)", x.is(9, t), 0);
        check.due("field", x.field(9, 0, 13, 4), 0);
        check.due("method", x.method(9, 0, 1, -1, 0, 0, 0, 0), 1);
        for (int way = 1; way <= 2; way++) {
            check.due("findField", x.findField(t, 0, way), 0);
            check.due("findField", x.findField(t, 1, way), -1);
            check.due("findMethod", x.findMethod(t, 1, way), 1);
        }
        check.due("inForce", x.inForce(t, 1), 1);
    }

    private static void longChainOfFaces() {
        ReflectMirror x = new ReflectMirror();
        for (int f = 9; f < 60; f++) {
            x.face(0);
            x.implement(f, f - 1);
        }
        check.due("about(59, 5)", x.about(59, 5), 52);
        for (int i = 0; i <= 50; i++) {
            check.due("ancestor(59, " + i + ")", x.ancestor(59, i), 59 - i);
        }
        check.due("ancestor(59, 51)", x.ancestor(59, 51), 8);
    }

    private static void isAmongPrimitives() {
        ReflectMirror x = new ReflectMirror();
        String[] wide = {"0", "14567", "234567", "34567", "4567", "567", "67", "7"};
        for (int a = 0; a < 8; a++) {
            for (int b = 0; b < 8; b++) {
                check.due("is(" + a + ", " + b + ")", x.is(a, b), wide[a].indexOf('0' + b) >= 0 ? 1 : 0);
            }
            check.due("is(" + a + ", 8)", x.is(a, 8), 0);
            check.due("is(8, " + a + ")", x.is(8, a), 0);
        }
        check.due("is(9, 8)", x.is(9, 8), -1);
        check.due("is(8, 9)", x.is(8, 9), -1);
        check.due("is(-1, 8)", x.is(-1, 8), -1);
        check.due("is(0, -1)", x.is(0, -1), -1);
    }

    private static void isAmongReferences() {
        ReflectMirror x = new ReflectMirror();
        int f = x.face(0);
        int g = x.face(1);
        int a = x.type(8, 0, true);
        int b = x.type(a, 1, false);
        int c = x.type(a, 2, false);
        check.due("is b f, not yet", x.is(b, f), 0);
        x.implement(g, f);
        x.implement(a, g);
        int[][] yes = {{f, f}, {f, 8}, {g, f}, {g, 8}, {a, g}, {a, f}, {b, a}, {b, g}, {b, f}, {c, a}, {c, f}, {8, 8}};
        int[][] no = {{f, g}, {8, f}, {8, a}, {a, b}, {b, c}, {c, b}, {f, a}, {g, b}, {a, 4}, {f, 0}};
        for (int[] y : yes) {
            check.due("is(" + y[0] + ", " + y[1] + ")", x.is(y[0], y[1]), 1);
        }
        for (int[] n : no) {
            check.due("is(" + n[0] + ", " + n[1] + ")", x.is(n[0], n[1]), 0);
        }
    }

    private static void isAmongRows() {
        ReflectMirror x = new ReflectMirror();
        int f = x.face(0);
        int a = x.type(8, 0, false);
        int b = x.type(a, 0, false);
        x.implement(b, f);
        int bs = x.rows(b);
        int as = x.rows(a);
        int fs = x.rows(f);
        int roots = x.rows(8);
        int ints = x.rows(4);
        int shorts = x.rows(3);
        int intRows = x.rows(ints);
        int rootRows = x.rows(roots);
        int bRows = x.rows(bs);
        int aRows = x.rows(as);
        int[][] yes = {{bs, as}, {bs, fs}, {bs, roots}, {bs, 8}, {as, roots}, {ints, ints}, {ints, 8}, {intRows, roots},
            {bRows, aRows}, {bRows, roots}, {bRows, rootRows}, {rootRows, roots}, {fs, roots}};
        int[][] no = {{as, bs}, {as, fs}, {roots, as}, {roots, rootRows}, {ints, roots}, {shorts, ints}, {ints, shorts},
            {intRows, rootRows}, {aRows, bRows}, {bs, a}, {bs, f}, {8, roots}, {ints, 4}, {4, ints}, {fs, as}};
        for (int[] y : yes) {
            check.due("is(" + y[0] + ", " + y[1] + ")", x.is(y[0], y[1]), 1);
        }
        for (int[] n : no) {
            check.due("is(" + n[0] + ", " + n[1] + ")", x.is(n[0], n[1]), 0);
        }
    }

    private static void meeting() {
        ReflectMirror x = new ReflectMirror();
        int f = x.face(0);
        int g = x.face(0);
        x.implement(g, f);
        int a = x.type(8, 0, false);
        int b = x.type(a, 0, false);
        int c = x.type(a, 0, false);
        int d = x.type(8, 0, false);
        x.implement(b, g);
        x.implement(d, f);
        check.due("meet b c", x.meet(b, c), a);
        check.due("meet b b", x.meet(b, b), b);
        check.due("meet a b", x.meet(a, b), a);
        check.due("meet b a", x.meet(b, a), a);
        check.due("meet b d: root ahead of faces", x.meet(b, d), 8);
        check.due("meet g d", x.meet(g, d), f);
        check.due("meet g b", x.meet(g, b), g);
        check.due("meet d g", x.meet(d, g), 8);
        check.due("meet f 8", x.meet(f, 8), 8);
        int as = x.rows(a);
        int bs = x.rows(b);
        int ints = x.rows(4);
        check.due("meet as bs", x.meet(as, bs), as);
        check.due("meet bs as", x.meet(bs, as), 8);
        check.due("meet ints as", x.meet(ints, as), 8);
        check.due("meet ints ints", x.meet(ints, ints), ints);
        int[][] bad = {{0, 8}, {8, 7}, {-1, 8}, {8, -1}, {99, 8}, {8, 99}, {4, 4}};
        for (int[] p : bad) {
            check.due("meet(" + p[0] + ", " + p[1] + ")", x.meet(p[0], p[1]), -1);
        }
    }

    private static void names() {
        ReflectMirror x = new ReflectMirror();
        x.type(8, 0, false);
        x.face(0);
        int rowsOfNine = x.rows(9);
        int rowsOfTen = x.rows(10);
        int longs = x.rows(5);
        int longRows = x.rows(longs);
        String[] names = {"Z", "C", "B", "S", "I", "J", "F", "D", "L8;", "L9;", "L10;"};
        for (int t = 0; t < names.length; t++) {
            dueName(x, t, names[t]);
        }
        dueName(x, rowsOfNine, "[L9;");
        dueName(x, rowsOfTen, "[L10;");
        dueName(x, longs, "[J");
        dueName(x, longRows, "[[J");
        int t = longRows;
        String name = "[[J";
        while (x.count(0) < 60) {
            t = x.rows(t);
            name = "[" + name;
        }
        dueName(x, t, name);
        check.due("letter(60, -1)", x.letter(60, -1), -1);
        check.due("letter(-1, -1)", x.letter(-1, -1), -1);
        ReflectMirror y = new ReflectMirror();
        while (y.count(0) < 60) {
            y.face(3);
        }
        dueName(y, 59, "L59;");
        dueName(y, 30, "L30;");
    }

    private static void dueName(ReflectMirror x, int t, String name) {
        check.due("letter(" + t + ", -1)", x.letter(t, -1), name.length());
        for (int i = 0; i < name.length(); i++) {
            check.due("letter(" + t + ", " + i + ")", x.letter(t, i), name.charAt(i));
        }
        check.due("letter past the end", x.letter(t, name.length()), -1);
        check.due("letter(" + t + ", -2)", x.letter(t, -2), -1);
        check.due("letter far past the end", x.letter(t, Integer.MAX_VALUE), -1);
    }
}
