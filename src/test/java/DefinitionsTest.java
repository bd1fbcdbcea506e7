import java.util.ArrayList;
import java.util.List;
import java.util.Random;

/**
 * The terms of the document, word by word and by plain recursion over what about() and member() tell, against the
 * answers of ancestor, is, meet, findField, findMethod, overrides, inForce and may, on houses made at random.
 */
final class DefinitionsTest {
    private static final Check check = new Check("DefinitionsTest");
    private static final int HOUSES = 400;
    private static final int NONE = -1;
    /** Building takes up to 110 calls, and an object is good for 512. */
    private static final int MOST_ASKED = 390;

    private static Random random;
    private static int house;
    private static int asked;
    private static ReflectMirror x;
    private static int types;
    private static int members;
    private static int things;
    private static int[] thingType;
    private static boolean[] isObject;
    private static int[][] about;
    private static int[][] member;

    public static void main(String[] args) {
        for (house = 0; house < HOUSES; house++) {
            build();
            learn();
            look();
        }
        check.end();
    }

    /** The house, or another one that is built likewise when this one can't take so many calls more. */
    private static ReflectMirror x(int calls) {
        asked += calls;
        if (asked > MOST_ASKED) {
            build();
            asked = calls;
        }
        return x;
    }

    private static ReflectMirror x() {
        return x(1);
    }

    private static int any(int below) {
        return random.nextInt(below);
    }

    private static void build() {
        random = new Random(house);
        asked = 0;
        x = new ReflectMirror();
        types = 9;
        members = 0;
        things = 0;
        boolean[] isFace = new boolean[60];
        int faceShare = 1 + any(4);
        for (int i = 6 + any(8); i > 0; i--) {
            int sort = any(7);
            isFace[types] = sort < faceShare;
            int made = isFace[types] ? x.face(any(2)) : sort == 6 ? x.rows(any(types))
                : x.type(any(3) == 0 ? 8 : Math.max(8, types - 1 - any(3)), any(2), any(3) == 0);
            types = Math.max(types, made + 1);
        }
        for (int i = any(25); i > 0; i--) {
            x.implement(9 + any(types - 8), 9 + any(types - 8));
        }
        for (int i = 60; i > 0; i--) {
            int t = 9 + any(types - 9);
            int marks = any(2) == 0 ? 1 + any(2) * 16 : any(32);
            int made = any(3) == 0 ? x.field(t, any(2), isFace[t] ? 13 : any(16), 4)
                : x.method(t, any(3), marks, any(4) == 0 ? 5 : 4, any(4) == 0 ? 1 : 0, 4, 0, 0);
            members = Math.max(members, made + 1);
        }
        for (int i = any(6); i > 0; i--) {
            int t = 8 + any(types - 8);
            things = Math.max(things, 1 + Math.max(x.object(t), x.row(t, 1)));
        }
    }

    private static void learn() {
        about = new int[types][10];
        member = new int[members][11];
        thingType = new int[things];
        isObject = new boolean[things];
        for (int t = 0; t < types; t++) {
            for (int what = 0; what < 10; what++) {
                about[t][what] = x().about(t, what);
            }
        }
        for (int m = 0; m < members; m++) {
            for (int what = 0; what < 11; what++) {
                member[m][what] = x().member(m, what);
            }
        }
        for (int t = 0; t < things; t++) {
            thingType[t] = x().thing(t, 0);
            isObject[t] = x().thing(t, 1) == NONE;
        }
    }

    private static void look() {
        for (int a = 0; a < types; a++) {
            List<Integer> line = ancestors(a);
            check.due("about(" + a + ", 5)", about[a][5], line.size());
            for (int i = 0; i < line.size(); i++) {
                check.due("ancestor(" + a + ", " + i + ")", x().ancestor(a, i), line.get(i));
            }
            for (int b = 0; b < types; b++) {
                if (a >= 8 && b >= 8) {
                    check.due("is(" + a + ", " + b + ")", x().is(a, b), isA(a, b) ? 1 : 0);
                    check.due("meet(" + a + ", " + b + ")", x().meet(a, b), meet(line, b));
                }
            }
            for (int way = 0; way <= 2; way++) {
                for (int name = 0; name < 2; name++) {
                    check.due("findField(" + a + ", " + name + ", " + way + ")", x().findField(a, name, way), foundField(a, name, way));
                }
                for (int m = 0; m < members; m++) {
                    if (!isField(m)) {
                        check.due("findMethod(" + a + ", " + m + ", " + way + ")", x().findMethod(a, m, way), foundMethod(a, m, way, a));
                    }
                }
            }
            for (int m = 0; m < members; m++) {
                check.due("inForce(" + a + ", " + m + ")", x().inForce(a, m), inForce(a, m));
            }
        }
        lookAtMembers();
    }

    private static void lookAtMembers() {
        for (int m = 0; m < members; m++) {
            for (int n = 0; n < members; n++) {
                int want = isField(m) != isField(n) ? -1 : (isField(m) ? hides(m, n) : overrides(m, n)) ? 1 : 0;
                check.due("overrides(" + m + ", " + n + ")", x().overrides(m, n), want);
            }
        }
        for (int caller = 8; caller < types; caller++) {
            for (int m = 0; m < members && about[caller][0] != 4; m++) {
                for (int t = -1; t < things; t++) {
                    ReflectMirror at = x(2);
                    at.caller(caller);
                    check.due("may(" + m + ", " + t + ") by " + caller, at.may(m, t), access(caller, m, t) ? 1 : 0);
                }
            }
        }
    }

    private static boolean isA(int a, int b) {
        if (a == b || b == 8 || (about[a][1] != NONE && isA(about[a][1], b))) {
            return true;
        }
        for (int face : faces(a)) {
            if (isA(face, b)) {
                return true;
            }
        }
        return about[a][2] >= 8 && about[b][2] >= 8 && isA(about[a][2], about[b][2]);
    }

    private static List<Integer> faces(int t) {
        List<Integer> all = new ArrayList<>();
        for (int i = 0; i < about[t][4]; i++) {
            all.add(about[t][7 + i]);
        }
        return all;
    }

    private static List<Integer> ancestors(int t) {
        List<Integer> line = new ArrayList<>();
        if (t < 8) {
            return line;
        }
        line.add(t);
        if (about[t][1] != NONE) {
            line.addAll(ancestors(about[t][1]));
        }
        for (int face : faces(t)) {
            line.addAll(ancestors(face));
        }
        if (about[t][0] == 3) {
            line.removeIf(a -> a == 8);
            line.add(8);
        }
        List<Integer> once = new ArrayList<>();
        for (int a : line) {
            if (!once.contains(a)) {
                once.add(a);
            }
        }
        return once;
    }

    private static int meet(List<Integer> line, int b) {
        for (int a : line) {
            if (isA(b, a)) {
                return a;
            }
        }
        return -99;
    }

    private static boolean isField(int m) {
        return member[m][3] == 1;
    }

    private static int who(int m) {
        return member[m][2] & 3;
    }

    private static boolean has(int m, int mark) {
        return (member[m][2] & mark) != 0;
    }

    private static int type(int m) {
        return member[m][0];
    }

    private static boolean like(int m, int n) {
        for (int what : new int[] {1, 3, 4, 5, 6, 7, 8}) {
            if (member[m][what] != member[n][what]) {
                return false;
            }
        }
        return true;
    }

    private static int declaredField(int t, int name) {
        for (int m = 0; m < members; m++) {
            if (isField(m) && type(m) == t && member[m][1] == name) {
                return m;
            }
        }
        return NONE;
    }

    private static int declaredMethod(int t, int like) {
        for (int m = 0; m < members; m++) {
            if (type(m) == t && like(m, like)) {
                return m;
            }
        }
        return NONE;
    }

    private static int foundField(int t, int name, int way) {
        int own = declaredField(t, name);
        if (way == 0) {
            return own;
        }
        if (own != NONE && (way == 2 || who(own) == 1)) {
            return own;
        }
        int ofFaces = NONE;
        for (int face : faces(t)) {
            ofFaces = ofFaces == NONE ? foundField(face, name, way) : ofFaces;
        }
        int ofParent = about[t][1] == NONE ? NONE : foundField(about[t][1], name, way);
        if (way == 1) {
            return ofFaces != NONE ? ofFaces : ofParent;
        }
        return ofParent != NONE ? ofParent : ofFaces;
    }

    private static int foundMethod(int t, int like, int way, int from) {
        int own = declaredMethod(t, like);
        if (way == 0) {
            return own;
        }
        boolean passed = own != NONE && has(own, 4) && about[t][0] == 3 && t != from;
        if (own != NONE && !passed && (way == 2 || who(own) == 1)) {
            return own;
        }
        int found = about[t][1] == NONE ? NONE : foundMethod(about[t][1], like, way, from);
        for (int face : faces(t)) {
            found = found == NONE ? foundMethod(face, like, way, from) : found;
        }
        return found;
    }

    private static boolean hides(int m, int n) {
        return member[m][1] == member[n][1] && type(m) != type(n) && isA(type(m), type(n));
    }

    private static boolean overrides(int m, int n) {
        if (!like(m, n) || has(m, 4) || has(n, 4) || who(m) == 2 || who(n) == 2) {
            return false;
        }
        if (type(m) == type(n) || !isA(type(m), type(n))) {
            return false;
        }
        return who(n) == 1 || who(n) == 3 || about[type(m)][3] == about[type(n)][3];
    }

    private static int inForce(int t, int m) {
        boolean isClass = about[t][0] == 1 || about[t][0] == 2;
        if (!isClass || isField(m) || has(m, 4) || who(m) == 2 || !isA(t, type(m))) {
            return -2;
        }
        for (int u = t; u != NONE; u = about[u][1]) {
            int c = declaredMethod(u, m);
            if (c == NONE) {
                continue;
            }
            boolean forFace = about[type(m)][0] == 3 && who(c) == 1 && !has(c, 4);
            if (c == m || overrides(c, m) || forFace) {
                if (!has(c, 16)) {
                    return c;
                }
                break;
            }
        }
        for (int u : ancestors(t)) {
            int c = about[u][0] == 3 ? declaredMethod(u, m) : NONE;
            if (c != NONE && (c == m || overrides(c, m)) && !has(c, 16)) {
                return c;
            }
        }
        return NONE;
    }

    private static boolean access(int caller, int m, int thing) {
        int d = type(m);
        if (who(m) == 1 || caller == d) {
            return true;
        }
        if (who(m) != 2 && about[caller][3] == about[d][3]) {
            return true;
        }
        return who(m) == 3 && isA(caller, d)
            && (has(m, 4) || (thing >= 0 && isObject[thing] && isA(thingType[thing], caller)));
    }
}
