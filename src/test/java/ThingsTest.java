/** Promises 23 to 34: objects and rows, slots, and values that are read and written. */
final class ThingsTest {
    private static final Check check = new Check("ThingsTest");
    private static final int LEAST = Integer.MIN_VALUE;
    private static final int MOST = Integer.MAX_VALUE;

    public static void main(String[] args) {
        objects();
        rows();
        thingsAreFull();
        slotsFit();
        slotsRefused();
        firstValues();
        gettingWidens();
        gettingFails();
        settingWidens();
        settingFails();
        settingFinal();
        fieldsAreApart();
        items();
        itemsFail();
        putting();
        puttingFails();
        storing();
        copying();
        copyingFails();
        copyingStopsAtAnItem();
        check.end();
    }

    private static void objects() {
        ReflectMirror x = new ReflectMirror();
        int f = x.face(0);
        int a = x.type(8, 0, true);
        int b = x.type(a, 0, false);
        int r = x.rows(b);
        check.due("an abstract class", x.object(a), -17);
        check.due("count(2)", x.count(2), 0);
        check.due("b", x.object(b), 0);
        check.due("root", x.object(8), 1);
        for (int t : new int[] {0, 7, f, r, -1, 13, LEAST, MOST}) {
            check.due("object(" + t + ")", x.object(t), -1);
        }
        check.due("row", x.row(r, 5), 2);
        check.due("thing(0, 0)", x.thing(0, 0), b);
        check.due("thing(1, 0)", x.thing(1, 0), 8);
        check.due("thing(2, 0)", x.thing(2, 0), r);
        check.due("thing(0, 1)", x.thing(0, 1), -1);
        check.due("thing(2, 1)", x.thing(2, 1), 5);
        check.due("thing(-1, 0)", x.thing(-1, 0), 0);
        check.due("thing(-1, 1)", x.thing(-1, 1), 0);
        int[][] bad = {{-2, 0}, {3, 0}, {LEAST, 1}, {MOST, 1}, {0, -1}, {0, 2}, {-1, 2}, {-1, -1}, {2, MOST}};
        for (int[] p : bad) {
            check.due("thing(" + p[0] + ", " + p[1] + ")", x.thing(p[0], p[1]), -2);
        }
    }

    private static void rows() {
        ReflectMirror x = new ReflectMirror();
        int ints = x.rows(4);
        check.due("none", x.row(ints, 0), 0);
        check.due("twenty", x.row(ints, 20), 1);
        check.due("one more", x.row(ints, 21), -1);
        check.due("most", x.row(ints, MOST), -1);
        check.due("below none", x.row(ints, -1), -15);
        check.due("least", x.row(ints, LEAST), -15);
        check.due("no rows", x.row(8, 1), -1);
        check.due("no rows", x.row(4, 1), -1);
        check.due("no rows, ahead of size", x.row(8, -1), -1);
        check.due("no type", x.row(10, 1), -1);
        check.due("no type", x.row(-1, 1), -1);
        check.due("thing(0, 1)", x.thing(0, 1), 0);
        check.due("thing(1, 1)", x.thing(1, 1), 20);
        check.due("count(2)", x.count(2), 2);
    }

    private static void thingsAreFull() {
        ReflectMirror x = new ReflectMirror();
        int ints = x.rows(4);
        int a = x.type(8, 0, true);
        for (int t = 0; t < 80; t++) {
            check.due("thing " + t, t % 2 == 0 ? x.object(8) : x.row(ints, t % 21), t);
        }
        check.due("object when full", x.object(8), -3);
        check.due("row when full", x.row(ints, 1), -3);
        check.due("full ahead of abstract", x.object(a), -3);
        check.due("full ahead of size", x.row(ints, -1), -3);
        check.due("bad ahead of full", x.object(4), -1);
        check.due("bad ahead of full", x.row(ints, 21), -1);
        check.due("count(2)", x.count(2), 80);
        check.due("the last", x.slot(0, 8, 79), 1);
        check.due("no more", x.slot(0, 8, 80), -1);
    }

    private static void slotsFit() {
        long floatInf = 0x7f800000L;
        long doubleInf = 0x7ff0000000000000L;
        long[][] fit = {{0, 0, 1}, {1, 0, 65535}, {2, -128, 127}, {3, -32768, 32767}, {4, LEAST, MOST},
            {5, Long.MIN_VALUE, Long.MAX_VALUE}, {6, LEAST, floatInf}, {6, 0xff800000, 1},
            {7, Long.MIN_VALUE, doubleInf}, {7, doubleInf | Long.MIN_VALUE, 1}, {8, -1, 1}};
        long[][] unfit = {{0, -1, 2}, {1, -1, 65536}, {2, -129, 128}, {3, -32769, 32768}, {4, LEAST - 1L, MOST + 1L},
            {6, floatInf + 1, MOST}, {6, 0xff800001, -1}, {6, 0xff800000L, 0x80000000L}, {6, LEAST - 1L, MOST + 1L},
            {7, doubleInf + 1, Long.MAX_VALUE}, {7, (doubleInf | Long.MIN_VALUE) + 1, -1}, {8, -2, 2},
            {8, 1L << 32, Long.MIN_VALUE}, {0, 1L << 32, Long.MIN_VALUE}};
        ReflectMirror x = new ReflectMirror();
        x.object(8);
        x.object(8);
        for (long[] row : fit) {
            for (int i = 1; i <= 2; i++) {
                check.due("slot " + row[0] + " " + row[i], x.slot(i, (int) row[0], row[i]), 1);
                check.due("kind", x.kind(i), row[0]);
                check.due("bits", x.bits(i), row[i]);
            }
        }
        x.slot(3, 2, 77);
        for (long[] row : unfit) {
            for (int i = 1; i <= 2; i++) {
                check.due("slot " + row[0] + " " + row[i], x.slot(3, (int) row[0], row[i]), -1);
            }
        }
        check.due("kind stays", x.kind(3), 2);
        check.due("bits stay", x.bits(3), 77);
    }

    private static void slotsRefused() {
        ReflectMirror x = new ReflectMirror();
        for (int slot : new int[] {-1, 8, LEAST, MOST}) {
            check.due("slot(" + slot + ")", x.slot(slot, 4, 0), -1);
            check.due("kind(" + slot + ")", x.kind(slot), -1);
            check.due("bits(" + slot + ")", x.bits(slot), Long.MIN_VALUE);
        }
        for (int as : new int[] {-1, 9, LEAST, MOST}) {
            check.due("as " + as, x.slot(0, as, 0), -1);
        }
        for (int slot = 0; slot < 8; slot++) {
            check.due("slot(" + slot + ")", x.slot(slot, 5, 1000 + slot), 1);
        }
        for (int slot = 0; slot < 8; slot++) {
            check.due("bits(" + slot + ")", x.bits(slot), 1000 + slot);
        }
    }

    private static void firstValues() {
        ReflectMirror x = new ReflectMirror();
        int a = x.type(8, 0, false);
        int b = x.type(a, 0, false);
        int ints = x.rows(4);
        int[] of = {0, 1, 2, 3, 4, 5, 6, 7, 8, a, ints};
        for (int i = 0; i < of.length; i++) {
            check.due("field", x.field(i % 2 == 0 ? a : b, i, 1, of[i]), 2 * i);
            check.due("static", x.field(i % 2 == 0 ? b : a, i, 5, of[i]), 2 * i + 1);
        }
        int thing = x.object(b);
        for (int i = 0; i < of.length; i++) {
            int as = Math.min(of[i], 8);
            for (int f = 2 * i; f <= 2 * i + 1; f++) {
                x.slot(0, 4, 99);
                check.due("get(" + f + ")", x.get(f, thing, as, 0), 1);
                check.due("kind", x.kind(0), as);
                check.due("bits", x.bits(0), as == 8 ? -1 : 0);
            }
            int row = x.row(x.rows(of[i]), 2);
            check.due("item", x.item(row, 1, as, 1), 1);
            check.due("kind", x.kind(1), as);
            check.due("bits", x.bits(1), as == 8 ? -1 : 0);
        }
    }

    private static void gettingWidens() {
        ReflectMirror x = new ReflectMirror();
        int a = x.type(8, 0, false);
        long[] held = {1, 65535, -128, -32768, 16777217, 9007199254740993L, Float.floatToIntBits(-0.1f),
            Double.doubleToLongBits(1e300)};
        for (int k = 0; k < 8; k++) {
            x.field(a, k, 1, k);
        }
        int thing = x.object(a);
        for (int k = 0; k < 8; k++) {
            x.slot(0, k, held[k]);
            check.due("set " + k, x.set(k, thing, 0), 1);
        }
        long f = Float.floatToIntBits(-0.1f);
        long[][] want = {{1}, {65535, 0, 0, 65535, 65535, Float.floatToIntBits(65535f), Double.doubleToLongBits(65535)},
            {-128, -128, -128, -128, Float.floatToIntBits(-128f), Double.doubleToLongBits(-128)},
            {-32768, -32768, -32768, Float.floatToIntBits(-32768f), Double.doubleToLongBits(-32768)},
            {16777217, 16777217, Float.floatToIntBits(16777216f), Double.doubleToLongBits(16777217)},
            {held[5], Float.floatToIntBits(9007199254740992f), Double.doubleToLongBits(9007199254740992.0)},
            {f, Double.doubleToLongBits(-0.1f)}, {held[7]}};
        for (int k = 0; k < 8; k++) {
            for (int as = 0; as <= 8; as++) {
                boolean wide = x.is(k, as) == 1 && as < 8;
                x.slot(1, 3, 5);
                check.due("get " + k + " as " + as, x.get(k, thing, as, 1), wide ? 1 : -12);
                check.due("kind", x.kind(1), wide ? as : 3);
                check.due("bits", x.bits(1), wide ? want[k][as - k] : 5);
            }
        }
    }

    private static void gettingFails() {
        ReflectMirror x = new ReflectMirror();
        int a = x.type(8, 1, false);
        int b = x.type(a, 1, false);
        int other = x.type(8, 1, false);
        int hidden = x.field(b, 0, 2, 4);
        int open = x.field(b, 1, 1, 8);
        int fixed = x.field(b, 2, 5, 4);
        int method = x.method(b, 0, 1, 4, 0, 0, 0, 0);
        int ofA = x.object(a);
        int ofB = x.object(b);
        int ofOther = x.object(other);
        int row = x.row(x.rows(b), 1);
        check.due("access ahead of null", x.get(hidden, -1, 8, 0), -16);
        check.due("access ahead of argument", x.get(hidden, ofA, 8, 0), -16);
        check.due("null ahead of argument", x.get(open, -1, 4, 0), -11);
        for (int t : new int[] {ofA, ofOther, row}) {
            check.due("not of the type", x.get(open, t, 8, 0), -12);
        }
        check.due("a reference as an int", x.get(open, ofB, 4, 0), -12);
        check.due("a reference", x.get(open, ofB, 8, 0), 1);
        check.due("an int as a reference", x.get(fixed, ofB, 8, 0), -12);
        for (int t : new int[] {-1, ofA, ofB, ofOther, row}) {
            check.due("a static one by " + t, x.get(fixed, t, 4, 0), 1);
        }
        check.due("open", x.open(hidden, true), 0);
        check.due("opened", x.get(hidden, ofB, 4, 0), 1);
        int[][] bad = {{method, ofB, 4, 0}, {-1, ofB, 4, 0}, {99, ofB, 4, 0}, {fixed, -2, 4, 0}, {fixed, 4, 4, 0},
            {fixed, ofB, -1, 0}, {fixed, ofB, 9, 0}, {fixed, ofB, 4, -1}, {fixed, ofB, 4, 8}};
        for (int[] p : bad) {
            check.due("get(" + p[0] + ", " + p[1] + ", " + p[2] + ", " + p[3] + ")", x.get(p[0], p[1], p[2], p[3]), -1);
        }
        x.open(hidden, false);
        check.due("bad ahead of access", x.get(hidden, ofB, 9, 0), -1);
    }

    private static void settingWidens() {
        ReflectMirror x = new ReflectMirror();
        int a = x.type(8, 0, false);
        for (int k = 0; k < 8; k++) {
            x.field(a, k, 1, k);
        }
        int thing = x.object(a);
        long[] one = {1, 1, 1, 1, 1, 1, Float.floatToIntBits(1f), Double.doubleToLongBits(1)};
        for (int from = 0; from < 8; from++) {
            for (int to = 0; to < 8; to++) {
                x.slot(0, from, one[from]);
                boolean wide = x.is(from, to) == 1;
                check.due("set " + from + " into " + to, x.set(to, thing, 0), wide ? 1 : -12);
                check.due("get", x.get(to, thing, to, 1), 1);
                check.due("bits", x.bits(1), wide ? one[to] : 0);
                x.slot(0, to, 0);
                x.set(to, thing, 0);
            }
        }
    }

    private static void settingFails() {
        ReflectMirror x = new ReflectMirror();
        int a = x.type(8, 1, false);
        int b = x.type(a, 1, false);
        int hidden = x.field(b, 0, 2, 4);
        int refs = x.field(b, 1, 1, b);
        int roots = x.field(b, 2, 1, 8);
        int fixed = x.field(b, 3, 5, 4);
        int method = x.method(b, 0, 1, 4, 0, 0, 0, 0);
        int ofA = x.object(a);
        int ofB = x.object(b);
        int row = x.row(x.rows(4), 1);
        x.slot(0, 8, ofA);
        x.slot(1, 8, ofB);
        x.slot(2, 8, -1);
        x.slot(3, 4, 1);
        x.slot(4, 8, row);
        check.due("access first", x.set(hidden, -1, 0), -16);
        check.due("null", x.set(refs, -1, 0), -11);
        check.due("argument", x.set(refs, ofA, 1), -12);
        check.due("argument", x.set(refs, row, 1), -12);
        check.due("an a is no b", x.set(refs, ofB, 0), -12);
        check.due("a row is no b", x.set(refs, ofB, 4), -12);
        check.due("an int is no b", x.set(refs, ofB, 3), -12);
        check.due("a b", x.set(refs, ofB, 1), 1);
        check.due("get", x.get(refs, ofB, 8, 7), 1);
        check.due("bits", x.bits(7), ofB);
        check.due("nothing", x.set(refs, ofB, 2), 1);
        check.due("get", x.get(refs, ofB, 8, 7), 1);
        check.due("bits", x.bits(7), -1);
        check.due("a row into a root", x.set(roots, ofB, 4), 1);
        check.due("an int into a root", x.set(roots, ofB, 3), -12);
        check.due("nothing into an int", x.set(fixed, -1, 2), -12);
        check.due("static", x.set(fixed, ofA, 3), 1);
        int[][] bad = {{method, ofB, 3}, {-1, ofB, 3}, {99, ofB, 3}, {fixed, -2, 3}, {fixed, 3, 3}, {fixed, ofB, -1},
            {fixed, ofB, 8}, {hidden, ofB, 8}};
        for (int[] p : bad) {
            check.due("set(" + p[0] + ", " + p[1] + ", " + p[2] + ")", x.set(p[0], p[1], p[2]), -1);
        }
    }

    private static void settingFinal() {
        ReflectMirror x = new ReflectMirror();
        int g = x.face(0);
        int a = x.type(8, 0, false);
        int kept = x.field(a, 0, 9, 4);
        int fixed = x.field(a, 1, 13, 4);
        int ofFace = x.field(g, 0, 13, 4);
        int own = x.field(a, 2, 10, 4);
        int t = x.object(a);
        x.slot(0, 4, 5);
        x.caller(a);
        check.due("final", x.set(kept, t, 0), -16);
        check.due("final, ahead of null", x.set(kept, -1, 0), -16);
        check.due("final and private, by its type", x.set(own, t, 0), -16);
        check.due("static final", x.set(fixed, -1, 0), -16);
        check.due("of a face", x.set(ofFace, -1, 0), -16);
        check.due("but it may be used", x.may(kept, t), 1);
        for (int f : new int[] {kept, fixed, ofFace, own}) {
            x.open(f, true);
        }
        check.due("final, opened", x.set(kept, t, 0), 1);
        check.due("final, opened, null", x.set(kept, -1, 0), -11);
        check.due("private, opened", x.set(own, t, 0), 1);
        check.due("static final, opened", x.set(fixed, -1, 0), -16);
        check.due("of a face, opened", x.set(ofFace, -1, 0), -16);
        check.due("get", x.get(fixed, -1, 4, 1), 1);
        check.due("bits", x.bits(1), 0);
        check.due("get", x.get(kept, t, 4, 1), 1);
        check.due("bits", x.bits(1), 5);
    }

    private static void fieldsAreApart() {
        ReflectMirror x = new ReflectMirror();
        int a = x.type(8, 0, false);
        int b = x.type(a, 0, false);
        int low = x.field(b, 0, 1, 4);
        int high = x.field(a, 0, 1, 4);
        int shared = x.field(a, 1, 5, 4);
        int[] things = {x.object(a), x.object(b), x.object(b)};
        for (int i = 0; i < 3; i++) {
            x.slot(0, 4, 10 + i);
            check.due("set high", x.set(high, things[i], 0), 1);
            x.slot(0, 4, 20 + i);
            check.due("set low", x.set(low, things[i], 0), i == 0 ? -12 : 1);
            x.slot(0, 4, 30 + i);
            check.due("set shared", x.set(shared, things[i], 0), 1);
        }
        for (int i = 0; i < 3; i++) {
            x.get(high, things[i], 4, 1);
            check.due("high of " + i, x.bits(1), 10 + i);
            x.get(shared, things[i], 4, 1);
            check.due("shared by " + i, x.bits(1), 32);
            if (i > 0) {
                x.get(low, things[i], 4, 1);
                check.due("low of " + i, x.bits(1), 20 + i);
            }
        }
    }

    private static void items() {
        ReflectMirror x = new ReflectMirror();
        long[] one = {1, 1, 1, 1, 1, 1, Float.floatToIntBits(1f), Double.doubleToLongBits(1)};
        for (int k = 0; k < 8; k++) {
            int row = x.row(x.rows(k), 3);
            x.slot(0, k, one[k]);
            check.due("put", x.put(row, 1, 0), 1);
            for (int as = 0; as <= 8; as++) {
                boolean wide = as < 8 && x.is(k, as) == 1;
                x.slot(1, 3, 5);
                check.due("item of " + k + " as " + as, x.item(row, 1, as, 1), wide ? 1 : -12);
                check.due("kind", x.kind(1), wide ? as : 3);
                check.due("bits", x.bits(1), wide ? one[as] : 5);
            }
            check.due("item 0", x.item(row, 0, k, 1), 1);
            check.due("bits", x.bits(1), 0);
            check.due("item 2", x.item(row, 2, k, 1), 1);
            check.due("bits", x.bits(1), 0);
        }
    }

    private static void itemsFail() {
        ReflectMirror x = new ReflectMirror();
        int ints = x.row(x.rows(4), 2);
        int roots = x.row(x.rows(8), 2);
        int object = x.object(8);
        check.due("null", x.item(-1, 9, 4, 0), -11);
        check.due("no rows, ahead of index", x.item(object, 9, 4, 0), -12);
        check.due("no rows", x.item(object, 0, 8, 0), -12);
        check.due("a reference of ints, ahead of index", x.item(ints, 9, 8, 0), -12);
        check.due("an int of references, ahead of index", x.item(roots, 9, 4, 0), -12);
        for (int i : new int[] {-1, 2, LEAST, MOST}) {
            check.due("index " + i, x.item(ints, i, 4, 0), -13);
            check.due("index ahead of widening", x.item(ints, i, 3, 0), -13);
            check.due("index " + i, x.item(roots, i, 8, 0), -13);
        }
        check.due("does not widen", x.item(ints, 1, 3, 0), -12);
        check.due("does not widen", x.item(ints, 1, 0, 0), -12);
        int[][] bad = {{-2, 0, 4, 0}, {3, 0, 4, 0}, {ints, 0, -1, 0}, {ints, 0, 9, 0}, {ints, 0, 4, -1}, {ints, 0, 4, 8},
            {-1, 0, 4, 8}};
        for (int[] p : bad) {
            check.due("item(" + p[0] + ", " + p[1] + ", " + p[2] + ", " + p[3] + ")", x.item(p[0], p[1], p[2], p[3]), -1);
        }
    }

    private static void putting() {
        ReflectMirror x = new ReflectMirror();
        int a = x.type(8, 0, false);
        int b = x.type(a, 0, false);
        int as = x.row(x.rows(a), 2);
        int doubles = x.row(x.rows(7), 2);
        int ofB = x.object(b);
        int ofRoot = x.object(8);
        x.slot(0, 8, ofB);
        x.slot(1, 8, -1);
        x.slot(2, 8, ofRoot);
        x.slot(3, 2, -5);
        check.due("a b", x.put(as, 1, 0), 1);
        check.due("item", x.item(as, 1, 8, 7), 1);
        check.due("bits", x.bits(7), ofB);
        check.due("a root", x.put(as, 1, 2), -12);
        check.due("item", x.item(as, 1, 8, 7), 1);
        check.due("bits", x.bits(7), ofB);
        check.due("nothing", x.put(as, 1, 1), 1);
        check.due("item", x.item(as, 1, 8, 7), 1);
        check.due("bits", x.bits(7), -1);
        check.due("a byte", x.put(doubles, 0, 3), 1);
        check.due("item", x.item(doubles, 0, 7, 7), 1);
        check.due("bits", x.bits(7), Double.doubleToLongBits(-5));
    }

    private static void puttingFails() {
        ReflectMirror x = new ReflectMirror();
        int ints = x.row(x.rows(4), 2);
        int roots = x.row(x.rows(8), 2);
        int object = x.object(8);
        x.slot(0, 4, 1);
        x.slot(1, 8, -1);
        x.slot(2, 5, 1);
        x.slot(3, 0, 1);
        check.due("null", x.put(-1, 9, 0), -11);
        check.due("no rows", x.put(object, 9, 0), -12);
        check.due("an int for references", x.put(roots, 9, 0), -12);
        check.due("a reference for ints", x.put(ints, 9, 1), -12);
        for (int i : new int[] {-1, 2, LEAST, MOST}) {
            check.due("index " + i, x.put(ints, i, 0), -13);
            check.due("index ahead of widening", x.put(ints, i, 2), -13);
            check.due("index " + i, x.put(roots, i, 1), -13);
        }
        check.due("a long", x.put(ints, 0, 2), -12);
        check.due("a boolean", x.put(ints, 0, 3), -12);
        int[][] bad = {{-2, 0, 0}, {3, 0, 0}, {ints, 0, -1}, {ints, 0, 8}, {-1, 0, 8}};
        for (int[] p : bad) {
            check.due("put(" + p[0] + ", " + p[1] + ", " + p[2] + ")", x.put(p[0], p[1], p[2]), -1);
            check.due("store(" + p[0] + ", " + p[1] + ", " + p[2] + ")", x.store(p[0], p[1], p[2]), -1);
        }
    }

    private static void storing() {
        ReflectMirror x = new ReflectMirror();
        int a = x.type(8, 0, false);
        int b = x.type(a, 0, false);
        int ints = x.row(x.rows(4), 2);
        int as = x.row(x.rows(a), 2);
        int rows = x.row(x.rows(x.rows(4)), 2);
        int ofB = x.object(b);
        int ofRoot = x.object(8);
        x.slot(0, 8, ofB);
        x.slot(1, 8, -1);
        x.slot(2, 8, ofRoot);
        x.slot(3, 4, 5);
        x.slot(4, 8, ints);
        check.due("a b", x.store(as, 0, 0), 1);
        check.due("item", x.item(as, 0, 8, 7), 1);
        check.due("bits", x.bits(7), ofB);
        check.due("a root", x.store(as, 0, 2), -14);
        check.due("nothing", x.store(as, 0, 1), 1);
        check.due("item", x.item(as, 0, 8, 7), 1);
        check.due("bits", x.bits(7), -1);
        check.due("ints into rows of ints", x.store(rows, 1, 4), 1);
        check.due("a b into rows of ints", x.store(rows, 1, 0), -14);
        check.due("null", x.store(-1, 9, 0), -11);
        check.due("rows of ints: cast, ahead of index", x.store(ints, 9, 0), -18);
        check.due("an object: cast", x.store(ofB, 9, 0), -18);
        for (int i : new int[] {-1, 2, LEAST, MOST}) {
            check.due("index, ahead of store", x.store(as, i, 2), -13);
        }
        check.due("a primitive is bad, ahead of all", x.store(-1, 9, 3), -1);
        check.due("a primitive is bad", x.store(ints, 0, 3), -1);
    }

    private static void copying() {
        ReflectMirror x = new ReflectMirror();
        int ints = x.rows(4);
        int a = x.row(ints, 6);
        int b = x.row(ints, 4);
        fill(x, a, 1, 2, 3, 4, 5, 6);
        check.due("to itself, upwards", x.copy(a, 0, a, 2, 4), 1);
        dueItems(x, a, 4, 1, 2, 1, 2, 3, 4);
        fill(x, a, 1, 2, 3, 4, 5, 6);
        check.due("to itself, downwards", x.copy(a, 2, a, 0, 4), 1);
        dueItems(x, a, 4, 3, 4, 5, 6, 5, 6);
        check.due("to another", x.copy(a, 3, b, 1, 3), 1);
        dueItems(x, b, 4, 0, 6, 5, 6);
        check.due("none", x.copy(a, 6, b, 4, 0), 1);
        dueItems(x, b, 4, 0, 6, 5, 6);
        check.due("one", x.copy(a, 0, b, 0, 1), 1);
        dueItems(x, b, 4, 3, 6, 5, 6);
        int full = x.row(ints, 20);
        int other = x.row(ints, 20);
        x.slot(0, 4, 9);
        x.put(full, 19, 0);
        check.due("twenty", x.copy(full, 0, other, 0, 20), 1);
        x.item(other, 19, 4, 1);
        check.due("bits", x.bits(1), 9);
    }

    private static void copyingFails() {
        ReflectMirror x = new ReflectMirror();
        int ints = x.row(x.rows(4), 3);
        int shorts = x.row(x.rows(3), 3);
        int roots = x.row(x.rows(8), 3);
        int object = x.object(8);
        check.due("null", x.copy(-1, 0, ints, 0, 1), -11);
        check.due("null", x.copy(ints, 0, -1, 0, 1), -11);
        check.due("null ahead of store", x.copy(object, 0, -1, 0, 1), -11);
        check.due("null ahead of store", x.copy(-1, 0, object, 0, 1), -11);
        int[][] unlike = {{object, ints}, {ints, object}, {object, object}, {object, roots}, {roots, object},
            {shorts, ints}, {ints, shorts}, {ints, roots}, {roots, ints}};
        for (int[] p : unlike) {
            check.due("store: " + p[0] + " to " + p[1], x.copy(p[0], 0, p[1], 0, 0), -14);
            check.due("store ahead of index", x.copy(p[0], -1, p[1], 0, 9), -14);
        }
        int[][] spans = {{-1, 0, 1}, {0, -1, 1}, {0, 0, -1}, {0, 0, 4}, {1, 0, 3}, {0, 1, 3}, {3, 0, 1}, {0, 3, 1},
            {4, 0, 0}, {0, 4, 0}, {MOST, 0, MOST}, {0, MOST, MOST}, {1, 0, MOST}, {0, 1, MOST}, {LEAST, 0, MOST},
            {LEAST, LEAST, LEAST}, {0, 0, LEAST}, {3, 3, LEAST}};
        for (int[] s : spans) {
            check.due("index " + s[0] + " " + s[1] + " " + s[2], x.copy(ints, s[0], ints, s[1], s[2]), -13);
            check.due("index " + s[0] + " " + s[1] + " " + s[2], x.copy(roots, s[0], roots, s[1], s[2]), -13);
        }
        int[][] bad = {{-2, ints}, {ints, -2}, {4, ints}, {ints, 4}, {-1, 4}, {LEAST, MOST}};
        for (int[] p : bad) {
            check.due("copy(" + p[0] + ", .., " + p[1] + ")", x.copy(p[0], 0, p[1], 0, 0), -1);
        }
    }

    private static void copyingStopsAtAnItem() {
        ReflectMirror x = new ReflectMirror();
        int a = x.type(8, 0, false);
        int roots = x.row(x.rows(8), 5);
        int as = x.row(x.rows(a), 5);
        int ofA = x.object(a);
        int ofRoot = x.object(8);
        fillReferences(x, roots, ofA, -1, ofA, ofRoot, ofA);
        check.due("all that go", x.copy(roots, 0, as, 0, 3), 1);
        dueItems(x, as, 8, ofA, -1, ofA, -1, -1);
        check.due("one does not", x.copy(roots, 0, as, 1, 4), -14);
        dueItems(x, as, 8, ofA, ofA, -1, ofA, -1);
        check.due("the first does not", x.copy(roots, 3, as, 0, 2), -14);
        dueItems(x, as, 8, ofA, ofA, -1, ofA, -1);
        check.due("index ahead of store", x.copy(roots, 3, as, 0, 3), -13);
        check.due("upwards all go", x.copy(as, 0, roots, 0, 5), 1);
        dueItems(x, roots, 8, ofA, ofA, -1, ofA, -1);
    }

    private static void fill(ReflectMirror x, int row, long... items) {
        for (int i = 0; i < items.length; i++) {
            x.slot(0, 4, items[i]);
            check.due("put", x.put(row, i, 0), 1);
        }
    }

    private static void fillReferences(ReflectMirror x, int row, long... items) {
        for (int i = 0; i < items.length; i++) {
            x.slot(0, 8, items[i]);
            check.due("store", x.store(row, i, 0), 1);
        }
    }

    private static void dueItems(ReflectMirror x, int row, int as, long... items) {
        for (int i = 0; i < items.length; i++) {
            check.due("item", x.item(row, i, as, 7), 1);
            check.due("item " + i + " of " + row, x.bits(7), items[i]);
        }
    }
}
