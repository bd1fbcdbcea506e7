import java.util.ArrayList;
import java.util.List;
import java.util.function.Supplier;

/**
 * All that can be asked of an object, in groups that belong together: two objects of one state answer it alike.
 * Asking spoils the object (it opens members, fills slots, runs bodies), so each group may be asked of a new one.
 */
final class Picture {
    private static final int PRIMITIVES = 8;
    private static final int MOST_CALLERS = 3;
    private final Supplier<ReflectMirror> maker;
    private final int mostCalls;
    private ReflectMirror x;
    private int calls;
    private final List<List<String>> groups = new ArrayList<>();
    private final int types;
    private final int members;
    private final int things;

    private Picture(Supplier<ReflectMirror> maker, int mostCalls) {
        this.maker = maker;
        this.mostCalls = mostCalls;
        calls = mostCalls;
        types = x().count(0);
        members = x().count(1);
        things = x().count(2);
    }

    /** What to ask of objects in the state in which the maker leaves them, each good for so many calls more. */
    static List<List<String>> of(Supplier<ReflectMirror> maker, int mostCalls) {
        Picture p = new Picture(maker, mostCalls);
        p.askCounts();
        p.askTypes();
        p.askMembers();
        p.askThings();
        p.askFields();
        p.askBodies();
        return p.groups;
    }

    private ReflectMirror x() {
        calls++;
        if (calls > mostCalls) {
            x = maker.get();
            calls = 1;
        }
        return x;
    }

    private List<String> group() {
        List<String> group = new ArrayList<>();
        groups.add(group);
        return group;
    }

    private void askCounts() {
        List<String> asked = group();
        for (int what = 0; what <= 5; what++) {
            asked.add("count(" + what + ")");
        }
        for (int what = 0; what <= 2; what++) {
            asked.add("cause(" + what + ")");
        }
        for (int slot = 0; slot <= 7; slot++) {
            asked.add("kind(" + slot + ")");
            asked.add("bits(" + slot + ")");
        }
        asked.add("caller(8)");
    }

    private void askTypes() {
        for (int t = 0; t < types; t++) {
            List<String> asked = group();
            for (int what = 0; what <= 9; what++) {
                asked.add("about(" + t + ", " + what + ")");
            }
            for (int i = 0; i <= x().about(t, 5); i++) {
                asked.add("ancestor(" + t + ", " + i + ")");
            }
            for (int i = 0, m = 0; m >= 0; i++) {
                asked.add("declared(" + t + ", " + i + ")");
                m = x().declared(t, i);
            }
        }
    }

    private void askMembers() {
        for (int m = 0; m < members; m++) {
            List<String> asked = group();
            for (int what = 0; what <= 10; what++) {
                asked.add("member(" + m + ", " + what + ")");
            }
        }
    }

    private void askThings() {
        for (int t = 0; t < things; t++) {
            List<String> asked = group();
            asked.add("thing(" + t + ", 0)");
            asked.add("thing(" + t + ", 1)");
            int as = Math.min(PRIMITIVES, x().about(x().thing(t, 0), 2));
            for (int i = 0; i < x().thing(t, 1); i++) {
                asked.add("item(" + t + ", " + i + ", " + as + ", 7)");
                asked.add("bits(7)");
            }
        }
    }

    private boolean isStatic(int m) {
        return (x().member(m, 2) & 4) != 0;
    }

    private void askFields() {
        for (int f = 0; f < members; f++) {
            if (x().member(f, 3) == 0) {
                continue;
            }
            int as = Math.min(PRIMITIVES, x().member(f, 4));
            List<String> asked = group();
            asked.add("open(" + f + ", true)");
            for (int t = isStatic(f) ? -1 : 0; t < (isStatic(f) ? 0 : things); t++) {
                if (t < 0 || x().is(x().thing(t, 0), x().member(f, 0)) == 1) {
                    asked.add("get(" + f + ", " + t + ", " + as + ", 7)");
                    asked.add("bits(7)");
                }
            }
        }
    }

    /** Whether one was told, and what it does: each METHOD is called by nothing and by some of the OBJECTS. */
    private void askBodies() {
        for (int m = 0; m < members; m++) {
            if (x().member(m, 3) == 1) {
                continue;
            }
            List<String> asked = group();
            asked.add("body(" + m + ", 0, 0, 0)");
            asked.add("open(" + m + ", true)");
            int params = x().member(m, 5);
            for (int i = 0; i < params; i++) {
                int kind = Math.min(PRIMITIVES, x().member(m, 6 + i));
                asked.add("slot(" + i + ", " + kind + ", " + (kind == PRIMITIVES ? -1 : i % 2) + ")");
            }
            int left = MOST_CALLERS;
            for (int t = -1; t < things && left > 0; t++) {
                if (t < 0 || x().is(x().thing(t, 0), x().member(m, 0)) == 1) {
                    left--;
                    asked.add("call(" + m + ", " + t + ", " + params + ", 7)");
                    asked.add("kind(7)");
                    asked.add("bits(7)");
                    asked.add("cause(1)");
                }
            }
        }
    }
}
