/** Promises 11, 12 and 14 to 22: the members, what is found, in force, open. BodiesTest has promise 13. */
final class MembersTest {
    private static final Check check = new Check("MembersTest");
    private static final int LEAST = Integer.MIN_VALUE;
    private static final int MOST = Integer.MAX_VALUE;

    public static void main(String[] args) {
        fields();
        fieldsOfClosedTypes();
        methods();
        methodMarks();
        likeMethods();
        membersAreFull();
        aboutMembers();
        declaredMembers();
        findingFields();
        findingMethods();
        overriding();
        hiding();
        inForceInClasses();
        inForceAcrossPackages();
        inForceForFaces();
        inForceIsRefused();
        opening();
        calling();
        access();
        check.end();
    }

    private static void fields() {
        ReflectMirror x = new ReflectMirror();
        int f = x.face(0);
        int a = x.type(8, 0, true);
        int r = x.rows(a);
        for (int marks = 0; marks <= 15; marks++) {
            check.due("field marks " + marks, x.field(a, marks, marks, 4), marks);
        }
        check.due("field marks 16", x.field(a, 16, 16, 4), -1);
        check.due("field marks -1", x.field(a, 16, -1, 4), -1);
        check.due("field of a face", x.field(f, 0, 13, r), 16);
        for (int marks : new int[] {0, 1, 2, 5, 9, 12, 14, 15, 29, -3}) {
            check.due("field of a face, marks " + marks, x.field(f, 1, marks, 4), -1);
        }
        for (int t : new int[] {8, 0, 7, r, -1, 12, LEAST, MOST}) {
            check.due("field by " + t, x.field(t, 19, 13, 4), -1);
        }
        for (int name : new int[] {-1, 20, LEAST, MOST}) {
            check.due("field named " + name, x.field(a, name, 0, 4), -1);
        }
        for (int of : new int[] {-1, 12, LEAST, MOST}) {
            check.due("field of " + of, x.field(a, 19, 0, of), -1);
        }
        check.due("name taken", x.field(a, 3, 1, 5), -2);
        check.due("name taken, static", x.field(a, 0, 5, 5), -2);
        check.due("name taken, bad first", x.field(a, 3, 1, 12), -1);
        check.due("name of a method", x.method(a, 19, 0, -1, 0, 0, 0, 0), 17);
        check.due("is free for a field", x.field(a, 19, 0, 8), 18);
        check.due("other type, same name", x.field(x.type(a, 0, false), 3, 0, 0), 19);
        check.due("count(1)", x.count(1), 20);
        check.due("count(5)", x.count(5), 19);
    }

    private static void fieldsOfClosedTypes() {
        ReflectMirror x = new ReflectMirror();
        int f = x.face(0);
        int a = x.type(8, 0, true);
        int b = x.type(a, 0, false);
        int c = x.type(b, 0, false);
        x.implement(a, f);
        check.due("field ahead", x.field(b, 0, 0, 4), 0);
        check.due("rows close nothing", x.row(x.rows(b), 1), 0);
        check.due("so a field comes", x.field(b, 1, 0, 4), 1);
        check.due("object", x.object(b), 1);
        check.due("closed", x.field(b, 2, 0, 4), -2);
        check.due("closed, its parent", x.field(a, 2, 0, 4), -2);
        check.due("static ones still come", x.field(b, 2, 4, 4), 2);
        check.due("static ones still come", x.field(a, 2, 7, 4), 3);
        check.due("of faces too", x.field(f, 2, 13, 4), 4);
        check.due("below is not closed", x.field(c, 2, 0, 4), 5);
        check.due("closed, bad first", x.field(b, 20, 0, 4), -1);
        check.due("methods still come", x.method(b, 2, 0, -1, 0, 0, 0, 0), 6);
    }

    private static void methods() {
        ReflectMirror x = new ReflectMirror();
        int a = x.type(8, 0, false);
        int r = x.rows(4);
        check.due("method", x.method(a, 0, 1, r, 3, 0, a, 8), 0);
        check.due("no result", x.method(a, 19, 1, -1, 0, 0, 0, 0), 1);
        check.due("what is beyond counts for nothing", x.method(a, 1, 1, 7, 1, 4, -5, 99), 2);
        for (int result : new int[] {-2, 11, LEAST, MOST}) {
            check.due("result " + result, x.method(a, 2, 1, result, 0, 0, 0, 0), -1);
        }
        for (int n : new int[] {-1, 4, LEAST, MOST}) {
            check.due("n " + n, x.method(a, 2, 1, 4, n, 0, 0, 0), -1);
        }
        for (int param : new int[] {-1, 11, LEAST, MOST}) {
            check.due("first param " + param, x.method(a, 2, 1, 4, 1, param, 0, 0), -1);
            check.due("second param " + param, x.method(a, 2, 1, 4, 2, 0, param, 0), -1);
            check.due("third param " + param, x.method(a, 2, 1, 4, 3, 0, 0, param), -1);
        }
        for (int name : new int[] {-1, 20}) {
            check.due("name " + name, x.method(a, name, 1, 4, 0, 0, 0, 0), -1);
        }
        for (int t : new int[] {8, 3, r, -1, 11}) {
            check.due("method by " + t, x.method(t, 2, 1, 4, 0, 0, 0, 0), -1);
        }
        check.due("count(1)", x.count(1), 3);
        check.due("count(5)", x.count(5), 0);
    }

    private static void methodMarks() {
        int[] sorts = {0, 1, 2};
        for (int sort : sorts) {
            ReflectMirror x = new ReflectMirror();
            int t = sort == 0 ? x.type(8, 0, false) : sort == 1 ? x.type(8, 0, true) : x.face(0);
            for (int marks = -1; marks <= 33; marks++) {
                boolean can = methodMarksCanBe(sort, marks);
                int want = can ? x.count(1) : -1;
                check.due("sort " + sort + " marks " + marks, x.method(t, marks & 15, marks, marks > 15 ? 4 : 5, 0, 0, 0, 0), want);
            }
        }
    }

    private static boolean methodMarksCanBe(int sort, int marks) {
        if (marks < 0 || marks > 31) {
            return false;
        }
        if (sort == 2) {
            return marks == 1 || marks == 2 || marks == 5 || marks == 6 || marks == 17;
        }
        if (marks < 16) {
            return true;
        }
        return sort == 1 && (marks == 16 || marks == 17 || marks == 19);
    }

    private static void likeMethods() {
        ReflectMirror x = new ReflectMirror();
        int a = x.type(8, 0, true);
        int b = x.type(a, 0, false);
        check.due("method", x.method(a, 0, 1, 4, 2, 4, 5, 0), 0);
        check.due("like it", x.method(a, 0, 2, 4, 2, 4, 5, 8), -2);
        check.due("like it, abstract", x.method(a, 0, 16, 4, 2, 4, 5, 8), -2);
        check.due("another name", x.method(a, 1, 1, 4, 2, 4, 5, 0), 1);
        check.due("another result", x.method(a, 0, 1, 5, 2, 4, 5, 0), 2);
        check.due("no result", x.method(a, 0, 1, -1, 2, 4, 5, 0), 3);
        check.due("no result again", x.method(a, 0, 1, -1, 2, 4, 5, 0), -2);
        check.due("fewer params", x.method(a, 0, 1, 4, 1, 4, 5, 0), 4);
        check.due("more params", x.method(a, 0, 1, 4, 3, 4, 5, 0), 5);
        check.due("other order", x.method(a, 0, 1, 4, 2, 5, 4, 0), 6);
        check.due("another type", x.method(b, 0, 1, 4, 2, 4, 5, 0), 7);
        check.due("like it, but bad first", x.method(a, 0, 18, 4, 2, 4, 5, 0), -1);
    }

    private static void membersAreFull() {
        ReflectMirror x = new ReflectMirror();
        int[] t = new int[4];
        for (int i = 0; i < 4; i++) {
            t[i] = x.type(8, 0, false);
        }
        for (int m = 0; m < 100; m++) {
            int by = t[m / 40];
            int got = m % 2 == 0 ? x.field(by, m / 2 % 20, 1, 4) : x.method(by, m / 2 % 20, 1, 4, 0, 0, 0, 0);
            check.due("member " + m, got, m);
        }
        check.due("field when full", x.field(t[3], 0, 1, 4), -3);
        check.due("method when full", x.method(t[3], 0, 1, 4, 0, 0, 0, 0), -3);
        check.due("field: no ahead of full", x.field(t[0], 0, 1, 4), -2);
        check.due("method: no ahead of full", x.method(t[0], 0, 1, 4, 0, 0, 0, 0), -2);
        check.due("field: bad ahead of full", x.field(t[3], 20, 1, 4), -1);
        check.due("method: bad ahead of full", x.method(t[3], 20, 1, 4, 0, 0, 0, 0), -1);
        check.due("count(1)", x.count(1), 100);
        check.due("count(5)", x.count(5), 50);
        check.due("member(99, 3)", x.member(99, 3), 0);
        check.due("member(100, 3)", x.member(100, 3), -3);
        check.due("an object of many", x.object(t[0]), 0);
    }

    private static void aboutMembers() {
        ReflectMirror x = new ReflectMirror();
        int f = x.face(1);
        int a = x.type(8, 0, true);
        x.field(f, 7, 13, 8);
        x.method(a, 8, 27 & ~8, -1, 2, a, 6, 3);
        x.method(a, 9, 10, f, 3, 0, 1, 2);
        dueMember(x, 0, f, 7, 13, 1, 8, -1, -1, -1, -1, 0, -1);
        dueMember(x, 1, a, 8, 19, 0, -1, 2, a, 6, -1, 0, -1);
        dueMember(x, 2, a, 9, 10, 0, f, 3, 0, 1, 2, 0, 0);
        check.due("open(2)", x.open(2, true), 0);
        check.due("body(2)", x.body(2, 4, 5, 0), 1);
        dueMember(x, 2, a, 9, 10, 0, f, 3, 0, 1, 2, 1, 4);
        for (int m : new int[] {-1, 3, LEAST, MOST}) {
            for (int what = -1; what <= 11; what++) {
                check.due("member(" + m + ", " + what + ")", x.member(m, what), -3);
            }
        }
    }

    private static void dueMember(ReflectMirror x, int m, int... want) {
        for (int what = 0; what <= 10; what++) {
            check.due("member(" + m + ", " + what + ")", x.member(m, what), want[what]);
        }
        for (int what : new int[] {-1, 11, LEAST, MOST}) {
            check.due("member(" + m + ", " + what + ")", x.member(m, what), -3);
        }
    }

    private static void declaredMembers() {
        ReflectMirror x = new ReflectMirror();
        int f = x.face(0);
        int a = x.type(8, 0, false);
        x.implement(a, f);
        x.field(a, 0, 0, 4);
        x.field(f, 0, 13, 4);
        x.method(a, 0, 0, -1, 0, 0, 0, 0);
        x.method(f, 0, 1, -1, 0, 0, 0, 0);
        x.field(a, 1, 2, 4);
        int[][] want = {{a, 0, 2, 4}, {f, 1, 3}, {8}, {4}};
        for (int[] w : want) {
            for (int i = 1; i < w.length; i++) {
                check.due("declared(" + w[0] + ", " + (i - 1) + ")", x.declared(w[0], i - 1), w[i]);
            }
            check.due("declared past the end", x.declared(w[0], w.length - 1), -1);
            check.due("declared(.., -1)", x.declared(w[0], -1), -1);
        }
        check.due("declared(11, 0)", x.declared(11, 0), -1);
        check.due("declared(-1, 0)", x.declared(-1, 0), -1);
        check.due("declared(a, MOST)", x.declared(a, MOST), -1);
    }

    private static void findingFields() {
        ReflectMirror x = new ReflectMirror();
        int f = x.face(0);
        int g = x.face(0);
        int h = x.face(0);
        int a = x.type(8, 0, false);
        int b = x.type(a, 1, false);
        x.implement(h, f);
        x.implement(a, g);
        x.implement(b, h);
        x.implement(b, g);
        int rb = x.rows(b);
        int fieldF = x.field(f, 0, 13, 4);
        int fieldG = x.field(g, 0, 13, 4);
        int publicA = x.field(a, 0, 1, 4);
        dueFields(x, b, 0, -1, fieldF, publicA);
        dueFields(x, a, 0, publicA, publicA, publicA);
        dueFields(x, h, 0, -1, fieldF, fieldF);
        dueFields(x, f, 0, fieldF, fieldF, fieldF);
        dueFields(x, 8, 0, -1, -1, -1);
        dueFields(x, rb, 0, -1, -1, -1);
        dueFields(x, 4, 0, -1, -1, -1);
        int privateA = x.field(a, 1, 2, 4);
        dueFields(x, a, 1, privateA, -1, privateA);
        dueFields(x, b, 1, -1, -1, privateA);
        int guardedB = x.field(b, 1, 3, 4);
        dueFields(x, b, 1, guardedB, -1, guardedB);
        int second = x.field(g, 2, 13, 4);
        dueFields(x, b, 2, -1, second, second);
        int packedB = x.field(b, 0, 0, 4);
        dueFields(x, b, 0, packedB, fieldF, packedB);
        check.due("field g", x.findField(g, 0, 1), fieldG);
        int third = x.field(a, 3, 5, 4);
        dueFields(x, b, 3, -1, third, third);
        for (int way : new int[] {-1, 3, LEAST, MOST}) {
            check.due("way " + way, x.findField(a, 0, way), -2);
        }
        for (int name : new int[] {-1, 20, LEAST, MOST}) {
            check.due("name " + name, x.findField(a, name, 0), -2);
        }
        for (int t : new int[] {-1, 15, LEAST, MOST}) {
            check.due("type " + t, x.findField(t, 0, 0), -2);
        }
    }

    private static void dueFields(ReflectMirror x, int t, int name, int... want) {
        for (int way = 0; way <= 2; way++) {
            check.due("findField(" + t + ", " + name + ", " + way + ")", x.findField(t, name, way), want[way]);
        }
    }

    private static void findingMethods() {
        ReflectMirror x = new ReflectMirror();
        int f = x.face(0);
        int g = x.face(0);
        int a = x.type(8, 0, true);
        int b = x.type(a, 1, false);
        x.implement(g, f);
        x.implement(a, f);
        x.implement(b, g);
        int ofF = x.method(f, 0, 17, 4, 0, 0, 0, 0);
        int ofG = x.method(g, 0, 1, 4, 0, 0, 0, 0);
        dueMethods(x, b, ofF, -1, ofF, ofF);
        dueMethods(x, a, ofF, -1, ofF, ofF);
        dueMethods(x, g, ofF, ofG, ofG, ofG);
        dueMethods(x, f, ofG, ofF, ofF, ofF);
        int privateA = x.method(a, 0, 2, 4, 0, 0, 0, 0);
        dueMethods(x, b, ofF, -1, ofF, privateA);
        dueMethods(x, a, ofF, privateA, ofF, privateA);
        int another = x.method(a, 0, 1, 5, 0, 0, 0, 0);
        dueMethods(x, b, another, -1, another, another);
        dueMethods(x, f, another, -1, -1, -1);
        int staticF = x.method(f, 1, 5, -1, 1, 4, 0, 0);
        dueMethods(x, f, staticF, staticF, staticF, staticF);
        dueMethods(x, g, staticF, -1, -1, -1);
        dueMethods(x, a, staticF, -1, -1, -1);
        dueMethods(x, b, staticF, -1, -1, -1);
        int privateStaticF = x.method(f, 2, 6, -1, 1, 4, 0, 0);
        dueMethods(x, f, privateStaticF, privateStaticF, -1, privateStaticF);
        int staticA = x.method(a, 1, 5, -1, 1, 4, 0, 0);
        dueMethods(x, b, staticF, -1, staticA, staticA);
        dueMethods(x, 8, staticF, -1, -1, -1);
        dueMethods(x, 2, staticF, -1, -1, -1);
        x.field(a, 0, 1, 4);
        int field = x.count(1) - 1;
        for (int m : new int[] {-1, field, field + 1, LEAST, MOST}) {
            check.due("findMethod(a, " + m + ", 2)", x.findMethod(a, m, 2), -2);
        }
        for (int way : new int[] {-1, 3, LEAST, MOST}) {
            check.due("way " + way, x.findMethod(a, ofF, way), -2);
        }
        for (int t : new int[] {-1, 13, LEAST, MOST}) {
            check.due("type " + t, x.findMethod(t, ofF, 0), -2);
        }
    }

    private static void dueMethods(ReflectMirror x, int t, int m, int... want) {
        for (int way = 0; way <= 2; way++) {
            check.due("findMethod(" + t + ", " + m + ", " + way + ")", x.findMethod(t, m, way), want[way]);
        }
    }

    private static void overriding() {
        ReflectMirror x = new ReflectMirror();
        int a = x.type(8, 0, false);
        int b = x.type(a, 1, false);
        int c = x.type(b, 0, false);
        int[] ofA = new int[8];
        int[] ofB = new int[8];
        int[] ofC = new int[8];
        for (int marks = 0; marks < 8; marks++) {
            ofA[marks] = x.method(a, marks, marks, 4, 1, 4, 0, 0);
            ofB[marks] = x.method(b, marks, marks, 4, 1, 4, 0, 0);
            ofC[marks] = x.method(c, marks, marks, 4, 1, 4, 0, 0);
        }
        for (int marks = 0; marks < 8; marks++) {
            boolean free = marks < 4 && marks != 2;
            check.due("b over a, " + marks, x.overrides(ofB[marks], ofA[marks]), free && marks != 0 ? 1 : 0);
            check.due("c over b, " + marks, x.overrides(ofC[marks], ofB[marks]), free && marks != 0 ? 1 : 0);
            check.due("c over a, " + marks, x.overrides(ofC[marks], ofA[marks]), free ? 1 : 0);
            check.due("a over b, " + marks, x.overrides(ofA[marks], ofB[marks]), 0);
            check.due("a over a, " + marks, x.overrides(ofA[marks], ofA[marks]), 0);
        }
        int publicA = x.method(a, 10, 1, 4, 1, 4, 0, 0);
        int privateB = x.method(b, 10, 2, 4, 1, 4, 0, 0);
        int staticC = x.method(c, 10, 5, 4, 1, 4, 0, 0);
        int otherB = x.method(b, 10, 1, 5, 1, 4, 0, 0);
        int otherC = x.method(c, 10, 1, 4, 1, 5, 0, 0);
        int namedC = x.method(c, 11, 1, 4, 1, 4, 0, 0);
        for (int m : new int[] {privateB, staticC, otherB, otherC, namedC}) {
            check.due("not over a: " + m, x.overrides(m, publicA), 0);
        }
        int packedB = x.method(b, 12, 0, 4, 0, 0, 0, 0);
        int publicOfA = x.method(a, 12, 1, 4, 0, 0, 0, 0);
        check.due("a weaker one overrides, too", x.overrides(packedB, publicOfA), 1);
        int d = x.type(8, 0, false);
        int apart = x.method(d, 12, 1, 4, 0, 0, 0, 0);
        check.due("types apart", x.overrides(apart, publicOfA), 0);
        int f = x.field(a, 0, 1, 4);
        check.due("a field and a method", x.overrides(f, publicA), -1);
        check.due("a method and a field", x.overrides(publicA, f), -1);
        check.due("no member", x.overrides(-1, publicA), -1);
        check.due("no member", x.overrides(publicA, x.count(1)), -1);
    }

    private static void hiding() {
        ReflectMirror x = new ReflectMirror();
        int f = x.face(0);
        int a = x.type(8, 0, false);
        int b = x.type(a, 1, false);
        x.implement(a, f);
        int ofF = x.field(f, 0, 13, 4);
        int ofA = x.field(a, 0, 2, 5);
        int ofB = x.field(b, 0, 0, 8);
        int named = x.field(b, 1, 1, 5);
        check.due("b hides a", x.overrides(ofB, ofA), 1);
        check.due("b hides f", x.overrides(ofB, ofF), 1);
        check.due("a hides f", x.overrides(ofA, ofF), 1);
        check.due("a does not hide b", x.overrides(ofA, ofB), 0);
        check.due("not itself", x.overrides(ofA, ofA), 0);
        check.due("another name", x.overrides(named, ofA), 0);
        check.due("no member", x.overrides(ofA, 4), -1);
        check.due("no member", x.overrides(4, ofA), -1);
    }

    private static void inForceInClasses() {
        ReflectMirror x = new ReflectMirror();
        int a = x.type(8, 0, true);
        int b = x.type(a, 0, true);
        int c = x.type(b, 0, false);
        int ofA = x.method(a, 0, 17, 4, 0, 0, 0, 0);
        check.due("none", x.inForce(c, ofA), -1);
        int ofB = x.method(b, 0, 1, 4, 0, 0, 0, 0);
        check.due("b's for c", x.inForce(c, ofA), ofB);
        check.due("b's for b", x.inForce(b, ofA), ofB);
        check.due("none for a", x.inForce(a, ofA), -1);
        check.due("b's by itself", x.inForce(c, ofB), ofB);
        int d = x.type(c, 0, true);
        int ofD = x.method(d, 0, 17, 4, 0, 0, 0, 0);
        check.due("abstract again: none", x.inForce(d, ofA), -1);
        check.due("abstract again: none", x.inForce(d, ofD), -1);
        int e = x.type(d, 0, false);
        int ofE = x.method(e, 0, 3, 4, 0, 0, 0, 0);
        check.due("e's for e", x.inForce(e, ofA), ofE);
        check.due("e's for e, from d's", x.inForce(e, ofD), ofE);
        int priv = x.method(c, 0, 2, 4, 0, 0, 0, 0);
        check.due("a private one is passed", x.inForce(c, ofA), ofB);
        check.due("a private one is refused", x.inForce(c, priv), -2);
    }

    private static void inForceAcrossPackages() {
        ReflectMirror x = new ReflectMirror();
        int a = x.type(8, 0, false);
        int b = x.type(a, 1, false);
        int c = x.type(b, 0, false);
        int ofA = x.method(a, 0, 0, 4, 0, 0, 0, 0);
        int ofB = x.method(b, 0, 0, 4, 0, 0, 0, 0);
        check.due("b's does not stand for a's", x.inForce(c, ofA), ofA);
        int ofC = x.method(c, 0, 0, 4, 0, 0, 0, 0);
        check.due("c's stands for a's", x.inForce(c, ofA), ofC);
        check.due("but not for b's", x.inForce(c, ofB), ofB);
        check.due("a's for b", x.inForce(b, ofA), ofA);
    }

    private static void inForceForFaces() {
        ReflectMirror x = new ReflectMirror();
        int f = x.face(0);
        int g = x.face(0);
        x.implement(g, f);
        int a = x.type(8, 2, true);
        int b = x.type(a, 1, false);
        x.implement(b, f);
        int ofF = x.method(f, 0, 17, 4, 0, 0, 0, 0);
        check.due("none", x.inForce(b, ofF), -1);
        int ofA = x.method(a, 0, 1, 4, 0, 0, 0, 0);
        check.due("a's, that is no f", x.inForce(b, ofF), ofA);
        int second = x.method(f, 1, 1, 4, 0, 0, 0, 0);
        check.due("the face's own", x.inForce(b, second), second);
        x.method(a, 1, 3, 4, 0, 0, 0, 0);
        check.due("a's is guarded: the face's own", x.inForce(b, second), second);
        int third = x.method(f, 2, 1, 4, 0, 0, 0, 0);
        x.method(a, 2, 5, 4, 0, 0, 0, 0);
        check.due("a's is static: the face's own", x.inForce(b, third), third);
        int fourth = x.method(f, 3, 1, 4, 0, 0, 0, 0);
        x.method(a, 3, 17, 4, 0, 0, 0, 0);
        check.due("a's is abstract: the face's own", x.inForce(b, fourth), fourth);
        int c = x.type(b, 3, false);
        x.implement(c, g);
        int ofG = x.method(g, 1, 17, 4, 0, 0, 0, 0);
        check.due("g's is abstract, f's is first anyway", x.inForce(c, second), second);
        check.due("g's itself is abstract", x.inForce(c, ofG), -1);
        int overG = x.method(g, 3, 1, 4, 0, 0, 0, 0);
        check.due("f comes ahead of g for c", x.inForce(c, fourth), fourth);
        int d = x.type(8, 0, false);
        x.implement(d, g);
        check.due("g comes ahead of f for d", x.inForce(d, fourth), overG);
        check.due("g's is abstract, so f's for d", x.inForce(d, second), second);
        int guarded = x.method(d, 3, 3, 4, 0, 0, 0, 0);
        check.due("d overrides by a guarded one", x.inForce(d, fourth), guarded);
        check.due("of another name", x.inForce(d, third), third);
    }

    private static void inForceIsRefused() {
        ReflectMirror x = new ReflectMirror();
        int f = x.face(0);
        int a = x.type(8, 0, false);
        int b = x.type(8, 0, false);
        int r = x.rows(a);
        x.implement(a, f);
        int m = x.method(f, 0, 1, 4, 0, 0, 0, 0);
        int s = x.method(f, 1, 5, 4, 0, 0, 0, 0);
        int p = x.method(f, 2, 2, 4, 0, 0, 0, 0);
        int field = x.field(f, 0, 13, 4);
        check.due("in force", x.inForce(a, m), m);
        int[][] bad = {{f, m}, {b, m}, {8, m}, {r, m}, {4, m}, {-1, m}, {99, m}, {a, s}, {a, p}, {a, field}, {a, -1},
            {a, 99}};
        for (int[] q : bad) {
            check.due("inForce(" + q[0] + ", " + q[1] + ")", x.inForce(q[0], q[1]), -2);
        }
    }

    private static void opening() {
        ReflectMirror x = new ReflectMirror();
        int a = x.type(8, 1, false);
        x.field(a, 0, 2, 4);
        check.due("open", x.open(0, true), 0);
        check.due("open again", x.open(0, true), 1);
        check.due("member(0, 9)", x.member(0, 9), 1);
        check.due("may", x.may(0, -1), 1);
        check.due("shut", x.open(0, false), 1);
        check.due("shut again", x.open(0, false), 0);
        check.due("member(0, 9)", x.member(0, 9), 0);
        check.due("may", x.may(0, -1), 0);
        check.due("open(1)", x.open(1, true), -1);
        check.due("open(-1)", x.open(-1, false), -1);
    }

    private static void calling() {
        ReflectMirror x = new ReflectMirror();
        int f = x.face(0);
        int a = x.type(8, 0, true);
        int r = x.rows(a);
        check.due("caller(f)", x.caller(f), 8);
        for (int t : new int[] {0, 7, r, -1, 12, LEAST, MOST}) {
            check.due("caller(" + t + ")", x.caller(t), -1);
        }
        check.due("caller(a)", x.caller(a), f);
        check.due("caller(8)", x.caller(8), a);
    }

    private static void access() {
        ReflectMirror x = new ReflectMirror();
        int a = x.type(8, 1, false);
        int b = x.type(a, 2, false);
        int c = x.type(b, 3, false);
        int near = x.type(8, 1, false);
        int far = x.type(8, 2, false);
        for (int who = 0; who <= 3; who++) {
            check.due("field", x.field(a, who, who, 4), 2 * who);
            check.due("static", x.method(a, who, who + 4, 4, 0, 0, 0, 0), 2 * who + 1);
        }
        int ofA = x.object(a);
        int ofB = x.object(b);
        int ofC = x.object(c);
        int row = x.row(x.rows(b), 1);
        int[] by = {-1, ofA, ofB, ofC, row};
        for (int m = 0; m < 8; m++) {
            int who = m / 2;
            boolean isStatic = m % 2 == 1;
            for (int t : by) {
                dueAccess(x, a, m, t, true);
                dueAccess(x, near, m, t, who != 2);
                dueAccess(x, far, m, t, who == 1);
                dueAccess(x, 8, m, t, who == 1);
                dueAccess(x, b, m, t, who == 1 || (who == 3 && (isStatic || t == ofB || t == ofC)));
                dueAccess(x, c, m, t, who == 1 || (who == 3 && (isStatic || t == ofC)));
            }
        }
        check.due("may(8, -1)", x.may(8, -1), -1);
        check.due("may(-1, -1)", x.may(-1, -1), -1);
        check.due("may(0, 4)", x.may(0, 4), -1);
        check.due("may(0, -2)", x.may(0, -2), -1);
    }

    private static void dueAccess(ReflectMirror x, int caller, int m, int thing, boolean want) {
        x.caller(caller);
        check.due("may(" + m + ", " + thing + ") by " + caller, x.may(m, thing), want ? 1 : 0);
    }
}
