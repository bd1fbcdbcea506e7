/** What the document says of BODIES: promise 13, and what each kind of BODY does when it is called. */
final class BodySentences {
    private static final int MIN = Integer.MIN_VALUE;
    private static final int MAX = Integer.MAX_VALUE;
    private final Sentences s;

    private BodySentences(Sentences s) {
        this.s = s;
    }

    static void tell(Sentences s) {
        BodySentences b = new BodySentences(s);
        b.toldOnce();
        b.nothingAndParams();
        b.fields();
        b.failing();
        b.callingOthers();
        b.adding();
        b.addingFloats();
        b.above();
        b.items();
        b.goesInto();
        b.results();
        b.badForAny();
        b.badParts();
        b.badParams();
        b.badReach();
        b.badAbove();
        b.badItems();
        b.unusedNumbers();
        b.called();
        b.deep();
        b.noAccess();
        b.endings();
        b.body();
    }

    /** A METHOD of type 9. */
    private static String method(int name, int marks, int number, int result, int... params) {
        int[] p = {0, 0, 0};
        System.arraycopy(params, 0, p, 0, params.length);
        return "method(9, " + name + ", " + marks + ", " + result + ", " + params.length + ", " + p[0] + ", " + p[1] + ", "
            + p[2] + ") = " + number + "\n";
    }

    private static String slot(int slot, int kind, long bits) {
        return "slot(" + slot + ", " + kind + ", " + bits + ") = 1\n";
    }

    private static String slotIs(int slot, int kind, long bits) {
        return "kind(" + slot + ") = " + kind + "\nbits(" + slot + ") = " + bits + "\n";
    }

    private static String causeIs(int failure, int method, int within) {
        return "cause(0) = " + failure + "\ncause(1) = " + method + "\ncause(2) = " + within + "\n";
    }

    private void toldOnce() {
        s.says(13, "======== 4 A BODY of a METHOD that is not ABSTRACT (0 till it is told, once):",
            "type(8, 0, true) = 9\n" + method(0, 5, 0, 4, 4, 4) + method(1, 5, 1, 4, 4) + method(2, 17, 2, 4, 4) + """
            member(0, 10) = 0
            slot(0, 4, 6) = 1
            slot(1, 4, 7) = 1
            call(0, -1, 2, 5) = 1               // nothing, till it is told
            bits(5) = 0
            body(0, 1, 0, 0) = 1
            member(0, 10) = 1
            body(0, 1, 1, 0) ! -2
            body(0, 0, 0, 0) ! -2
            call(0, -1, 2, 5) = 1
            bits(5) = 6
            body(1, 0, 0, 0) = 1                // 0 that is told is told, too
            body(1, 1, 0, 0) ! -2
            body(1, 0, 0, 0) ! -2
            body(2, 0, 0, 0) ! -1
            member(2, 10) = -1
            """);
    }

    private void nothingAndParams() {
        StringBuilder nothing = new StringBuilder("type(8, 0, false) = 9\nrows(4) = 10\n");
        int[] results = {-1, 0, 1, 2, 3, 4, 5, 6, 7, 8, 9, 10};
        for (int i = 0; i < results.length; i++) {
            int kind = results[i] < 0 ? 4 : Math.min(8, results[i]);
            nothing.append(method(i, 5, i, results[i])).append("body(" + i + ", 0, 0, 0) = 1\n").append(slot(3, 5, 99))
                .append("call(" + i + ", -1, 0, 3) = 1\n").append(slotIs(3, kind, kind == 8 ? -1 : 0));
        }
        s.says(35, "0 nothing.", nothing.toString());
        s.says(35, "1 i: PARAM i.", "type(8, 0, false) = 9\n" + method(0, 5, 0, 5, 2, 3, 4) + method(1, 5, 1, 5, 2, 3, 4)
            + method(2, 5, 2, 5, 2, 3, 4) + "body(0, 1, 0, 0) = 1\nbody(1, 1, 1, 0) = 1\nbody(2, 1, 2, 0) = 1\n"
            + slot(0, 2, -7) + slot(1, 2, 8) + slot(2, 1, 9)
            + "call(0, -1, 3, 5) = 1\n" + slotIs(5, 5, -7) + "call(1, -1, 3, 5) = 1\n" + slotIs(5, 5, 8)
            + "call(2, -1, 3, 5) = 1\n" + slotIs(5, 5, 9));
    }

    private void fields() {
        String house = """
            type(8, 0, false) = 9
            type(9, 0, false) = 10
            field(9, 0, 1, 4) = 0
            field(9, 1, 5, 5) = 1
            """;
        s.says(35, "2 f: the VALUE of FIELD f.", house + """
            method(10, 0, 1, 5, 0, 0, 0, 0) = 2
            method(10, 1, 5, 5, 0, 0, 0, 0) = 3
            body(2, 2, 0, 0) = 1
            body(3, 2, 1, 0) = 1
            object(10) = 0
            object(10) = 1
            slot(0, 4, 6) = 1
            set(0, 1, 0) = 1
            slot(0, 4, 7) = 1
            set(1, -1, 0) = 1
            call(2, 0, 0, 5) = 1
            bits(5) = 0
            call(2, 1, 0, 5) = 1                // of the OBJECT for which it is called
            bits(5) = 6
            kind(5) = 5
            call(3, -1, 0, 5) = 1
            bits(5) = 7
            """);
        s.says(35, "3 f i: FIELD f becomes PARAM i; nothing.", house + """
            method(10, 0, 1, 8, 2, 4, 3, 0) = 2
            method(10, 1, 5, 7, 2, 4, 3, 0) = 3
            body(2, 3, 0, 1) = 1
            body(3, 3, 1, 0) = 1
            object(10) = 0
            object(10) = 1
            slot(0, 4, 6) = 1
            slot(1, 3, 8) = 1
            call(2, 1, 2, 5) = 1
            kind(5) = 8                         // nothing, as the RESULT has it
            bits(5) = -1
            get(0, 1, 4, 6) = 1
            bits(6) = 8
            get(0, 0, 4, 6) = 1
            bits(6) = 0
            call(3, -1, 2, 5) = 1
            kind(5) = 7
            bits(5) = 0
            get(1, -1, 5, 6) = 1
            bits(6) = 6
            """, house + """
            field(10, 2, 1, 7) = 2
            field(10, 3, 5, 6) = 3
            method(10, 0, 1, -1, 1, 4, 0, 0) = 4
            method(10, 1, 5, -1, 1, 5, 0, 0) = 5
            body(4, 3, 2, 0) = 1
            body(5, 3, 3, 0) = 1
            object(10) = 0
            slot(0, 2, -3) = 1
            call(4, 0, 1, 5) = 1
            get(2, 0, 7, 6) = 1                 // what the FIELD is of, so widened
            """ + slotIs(6, 7, Sentences.d(-3.0)) + "call(5, -1, 1, 5) = 1\nget(3, -1, 6, 6) = 1\n" + slotIs(6, 6, Sentences.f(-3f)));
    }

    private void failing() {
        StringBuilder run = new StringBuilder("type(8, 0, false) = 9\n");
        for (int k = 1; k <= 8; k++) {
            int m = k - 1;
            run.append(method(k, 5, m, 4)).append("body(" + m + ", 4, " + k + ", 0) = 1\n")
                .append("call(" + m + ", -1, 0, 0) = -19\n").append(causeIs(k, m, 0));
        }
        s.says(35, "4 k: FAILS by k (1 to 8).", run.toString());
        s.says(13, "4 k: FAILS by k (1 to 8).", "type(8, 0, false) = 9\n" + method(0, 5, 0, 4)
            + Sentences.each("body(0, 4, #, 1) ! -1", -1, 0, 9, 10, 11, MIN, MAX) + "body(0, 4, 8, 0) = 1\n");
    }

    private void callingOthers() {
        s.says(35, "5 m: METHOD m is called with the first of the PARAMS, as many as m has.", "type(8, 0, false) = 9\n"
            + method(0, 5, 0, 5, 4, 5) + method(1, 5, 1, 5, 4) + method(2, 5, 2, 5) + method(3, 5, 3, 5, 4, 4, 4)
            + method(4, 5, 4, 5, 4, 4, 4) + method(5, 5, 5, 7, 4, 4, 4) + """
            body(0, 1, 1, 0) = 1
            body(1, 1, 0, 0) = 1
            body(3, 5, 0, 0) = 1
            body(4, 5, 1, 0) = 1
            body(5, 5, 2, 0) = 1
            """ + slot(0, 4, 11) + slot(1, 4, 12) + slot(2, 4, 13) + """
            call(3, -1, 3, 5) = 1
            bits(5) = 12
            count(3) = 2
            call(4, -1, 3, 5) = 1
            bits(5) = 11
            count(3) = 4
            call(5, -1, 3, 5) = 1
            kind(5) = 7
            bits(5) = 0
            count(3) = 6
            """, "type(8, 0, false) = 9\n" + method(0, 5, 0, 7, 6) + method(1, 5, 1, 7, 5) + "body(0, 1, 0, 0) = 1\n"
            + "body(1, 5, 0, 0) = 1\n" + slot(0, 5, 16777217) + "call(1, -1, 1, 5) = 1\n"
            + slotIs(5, 7, Sentences.d(16777216)));     // by way of the FLOAT that the PARAM is
    }

    private void adding() {
        int[] sums = {0, 4, 4, 4, 4, 5, 6, 7};
        StringBuilder kinds = new StringBuilder("type(8, 0, false) = 9\n");
        StringBuilder narrower = new StringBuilder("type(8, 0, false) = 9\n");
        int made = 0;
        for (int p = 1; p <= 7; p++) {
            for (int q = 1; q <= 7; q++) {
                int sum = Math.max(sums[p], sums[q]);
                kinds.append(method(made % 20, 5, made, sum, p, q)).append("body(" + made + ", 6, 0, 1) = 1\n")
                    .append(slot(0, p, one(p))).append(slot(1, q, one(q))).append("call(" + made + ", -1, 2, 2) = 1\n")
                    .append(slotIs(2, sum, two(sum)));
                narrower.append(method(made % 20, 5, made, sum - 1, p, q)).append("body(" + made + ", 6, 0, 1) ! -1\n");
                made++;
            }
        }
        s.says(35, "6 i j: PARAMS i and j, NUMBERS, added, as INT or, if one is wider, as the widest of both",
            kinds.toString());
        s.says(13, "6 i j: PARAMS i and j, NUMBERS, added, as INT or, if one is wider, as the widest of both",
            narrower.toString(), "type(8, 0, false) = 9\nrows(4) = 10\n" + method(0, 5, 0, -1, 0, 4, 8) + method(1, 5, 1, -1, 10, 4)
            + """
            body(0, 6, 0, 1) ! -1
            body(0, 6, 1, 0) ! -1
            body(0, 6, 0, 0) ! -1
            body(0, 6, 1, 2) ! -1
            body(0, 6, 2, 1) ! -1
            body(1, 6, 0, 1) ! -1
            body(1, 6, 1, 0) ! -1
            body(1, 6, 1, 1) = 1                // one of them twice
            """);
        s.says(35, "(wholes wrap;", sum(4, 4, 5, MAX, 1, MIN), sum(4, 4, 4, MIN, -1, MAX), sum(4, 4, 5, MIN, MIN, 0),
            sum(5, 5, 5, Long.MAX_VALUE, 1, Long.MIN_VALUE), sum(5, 4, 5, Long.MIN_VALUE, -1, Long.MAX_VALUE),
            sum(4, 5, 5, MAX, 1, MAX + 1L), sum(1, 1, 4, 65535, 65535, 131070), sum(2, 2, 4, -128, -128, -256),
            sum(3, 3, 5, 32767, 32767, 65534), sum(2, 4, 4, -128, MIN, MIN - 128));
    }

    /** 1 and 2 as BITS of a kind. */
    private static long one(int kind) {
        return kind == 6 ? Sentences.f(1f) : kind == 7 ? Sentences.d(1.0) : 1;
    }

    private static long two(int kind) {
        return kind == 6 ? Sentences.f(2f) : kind == 7 ? Sentences.d(2.0) : 2;
    }

    private static String sum(int p, int q, int result, long a, long b, long want) {
        return "type(8, 0, false) = 9\n" + method(0, 5, 0, result, p, q) + "body(0, 6, 0, 1) = 1\n" + slot(0, p, a)
            + slot(1, q, b) + "call(0, -1, 2, 2) = 1\n" + slotIs(2, result, want);
    }

    private static String floatSum(float a, float b) {
        return sum(6, 6, 6, Sentences.f(a), Sentences.f(b), Sentences.f(a + b));
    }

    private static String doubleSum(double a, double b) {
        return sum(7, 7, 7, Sentences.d(a), Sentences.d(b), Sentences.d(a + b));
    }

    private void addingFloats() {
        float tiny = Float.MIN_VALUE;
        double small = Double.MIN_VALUE;
        float endless = Float.POSITIVE_INFINITY;
        s.says(35, "FLOAT, DOUBLE as IEEE 754;", floatSum(0.1f, 0.2f), floatSum(16777216f, 1f), floatSum(16777216f, 3f),
            floatSum(1f, -1f), floatSum(-0f, -0f), floatSum(-0f, 0f), floatSum(Float.MAX_VALUE, Float.MAX_VALUE),
            floatSum(-Float.MAX_VALUE, -Float.MAX_VALUE), floatSum(tiny, tiny), floatSum(tiny, -Float.MIN_NORMAL),
            floatSum(Float.MIN_NORMAL, -tiny), floatSum(endless, 1f), floatSum(1f, -endless), floatSum(endless, endless),
            floatSum(1f, 0x1p-24f), floatSum(0x1.000002p0f, 0x1p-24f), floatSum(1f, 0x1.000002p-24f),
            floatSum(0f, -0f), floatSum(1f, -0x1.000002p-24f), floatSum(0x1p64f, 1f), floatSum(1e30f, -1e-30f),
            doubleSum(0.0, -0.0), doubleSum(1, -0x1.0000000000001p-53), doubleSum(1, 0x1p64), doubleSum(1e300, 1e-300),
            doubleSum(0.1, 0.2), doubleSum(0x1p53, 1), doubleSum(0x1p53, 3), doubleSum(-0.0, -0.0), doubleSum(5, -5),
            doubleSum(Double.MAX_VALUE, Double.MAX_VALUE), doubleSum(small, small), doubleSum(Double.MIN_NORMAL, -small),
            doubleSum(1e300, -1e284), doubleSum(Double.NEGATIVE_INFINITY, 1), doubleSum(Double.NEGATIVE_INFINITY, -endless),
            sum(4, 6, 6, 16777217, Sentences.f(1f), Sentences.f(16777217 + 1f)),
            sum(5, 6, 6, Long.MAX_VALUE, Sentences.f(-1f), Sentences.f(Long.MAX_VALUE + -1f)),
            sum(5, 7, 7, 9007199254740993L, Sentences.d(1.0), Sentences.d(9007199254740993L + 1.0)),
            sum(6, 7, 7, Sentences.f(0.1f), Sentences.d(0.2), Sentences.d(0.1f + 0.2)),
            sum(6, 6, 7, Sentences.f(0.1f), Sentences.f(0.2f), Sentences.d(0.1f + 0.2f)));
        s.says(35, "it FAILS by 2 where that were no number).", noNumber(6, 6, Sentences.f(endless), Sentences.f(-endless)),
            noNumber(6, 6, Sentences.f(-endless), Sentences.f(endless)),
            noNumber(7, 7, Sentences.d(endless), Sentences.d(-endless)),
            noNumber(7, 7, Sentences.d(-endless), Sentences.d(endless)),
            noNumber(6, 7, Sentences.f(endless), Sentences.d(-endless)),
            noNumber(7, 6, Sentences.d(endless), Sentences.f(-endless)));
    }

    private static String noNumber(int p, int q, long a, long b) {
        return "type(8, 0, false) = 9\n" + method(0, 5, 0, 7, p, q) + method(1, 5, 1, -1, p, q) + "body(0, 6, 0, 1) = 1\n"
            + "body(1, 6, 0, 1) = 1\n" + slot(0, p, a) + slot(1, q, b) + slot(2, 1, 65)
            + "call(0, -1, 2, 2) = -19\n" + causeIs(2, 0, 0) + slotIs(2, 1, 65)
            + "call(1, -1, 2, 2) = -19\n" + causeIs(2, 1, 0);
    }

    private void above() {
        s.says(35, "7: the METHOD above, the one that is FOUND by 2, LIKE it, from the PARENT of its type as the BODY is told,"
            + " is called with the PARAMS.", """
            type(8, 0, false) = 9
            type(9, 0, false) = 10
            type(10, 0, false) = 11
            method(9, 0, 1, 5, 2, 4, 5, 0) = 0
            method(11, 0, 1, 5, 2, 4, 5, 0) = 1
            body(0, 1, 1, 0) = 1
            body(1, 7, 0, 0) = 1
            method(10, 0, 1, 5, 2, 4, 5, 0) = 2
            body(2, 1, 0, 0) = 1
            object(11) = 0
            """ + slot(0, 4, 6) + slot(1, 5, 7) + """
            call(1, 0, 2, 5) = 1                // 0 was above it as it was told; 2 came later
            bits(5) = 7
            count(3) = 2
            object(10) = 1
            call(0, 1, 2, 5) = 1
            bits(5) = 6
            """, """
            face(0) = 9
            face(0) = 10
            type(8, 0, false) = 11
            type(11, 1, false) = 12
            implement(11, 9) = 1
            implement(12, 10) = 1
            method(9, 0, 1, 4, 1, 4, 0, 0) = 0
            method(10, 0, 1, 4, 1, 4, 0, 0) = 1
            method(12, 0, 1, 4, 1, 4, 0, 0) = 2
            body(0, 1, 0, 0) = 1
            body(1, 4, 3, 0) = 1
            body(2, 7, 0, 0) = 1                // from its PARENT: 0; not 1 of its own FACE
            object(12) = 0
            slot(0, 4, 8) = 1
            call(2, 0, 1, 5) = 1
            bits(5) = 8
            """, """
            type(8, 0, false) = 9
            type(9, 1, false) = 10
            method(9, 0, 0, 4, 1, 4, 0, 0) = 0
            method(10, 0, 1, 4, 1, 4, 0, 0) = 1
            body(0, 1, 0, 0) = 1
            body(1, 7, 0, 0) = 1                // by 2: any, whoever may
            object(10) = 0
            slot(0, 4, 8) = 1
            call(1, 0, 1, 5) = 1
            bits(5) = 8
            """, """
            face(0) = 9
            type(8, 0, false) = 10
            type(10, 0, false) = 11
            implement(10, 9) = 1
            method(9, 0, 5, 4, 0, 0, 0, 0) = 0
            method(11, 0, 1, 4, 0, 0, 0, 0) = 1
            body(1, 7, 0, 0) ! -1               // a STATIC one of a FACE is passed over
            """);
    }

    private void items() {
        s.says(35, "8 i j: ITEM j of PARAM i.", """
            type(8, 0, false) = 9
            rows(3) = 10
            rows(9) = 11
            method(9, 0, 5, 5, 2, 10, 4, 0) = 0
            method(9, 1, 5, 8, 3, 1, 4, 11) = 1
            body(0, 8, 0, 1) = 1
            body(1, 8, 2, 0) = 1
            row(10, 2) = 0
            row(11, 2) = 1
            object(9) = 2
            slot(0, 3, -6) = 1
            put(0, 1, 0) = 1
            slot(0, 8, 2) = 1
            put(1, 1, 0) = 1
            """ + slot(0, 8, 0) + slot(1, 2, 1) + "call(0, -1, 2, 5) = 1\n" + slotIs(5, 5, -6)
            + slot(1, 2, 0) + "call(0, -1, 2, 5) = 1\n" + slotIs(5, 5, 0)
            + slot(0, 1, 1) + slot(1, 4, 0) + slot(2, 8, 1) + "call(1, -1, 3, 5) = 1\n" + slotIs(5, 8, 2)
            + slot(0, 1, 0) + "call(1, -1, 3, 5) = 1\n" + slotIs(5, 8, -1));
        s.says(35, "8: PARAM i is NOTHING: NULL; then INDEX.", """
            type(8, 0, false) = 9
            rows(4) = 10
            method(9, 0, 5, 4, 2, 10, 4, 0) = 0
            body(0, 8, 0, 1) = 1
            row(10, 2) = 0
            row(10, 0) = 1
            row(10, 20) = 2
            """ + slot(0, 8, -1) + slot(1, 4, -1) + slot(5, 1, 77) + "call(0, -1, 2, 5) = -19\n" + causeIs(1, 0, 0)
            + slotIs(5, 1, 77) + slot(1, 4, 0) + "call(0, -1, 2, 5) = -19\n" + causeIs(1, 0, 0)
            + slot(0, 8, 0) + "call(0, -1, 2, 5) = 1\n" + slot(1, 4, 1) + "call(0, -1, 2, 5) = 1\n"
            + Sentences.each("slot(1, 4, #) = 1\ncall(0, -1, 2, 5) = -19\ncause(0) = 3", -1, 2, 20, MIN, MAX)
            + slot(0, 8, 1) + slot(1, 4, 0) + "call(0, -1, 2, 5) = -19\n" + causeIs(3, 0, 0)
            + slot(0, 8, 2) + slot(1, 4, 19) + "call(0, -1, 2, 5) = 1\n" + slot(1, 4, 20) + "call(0, -1, 2, 5) = -19\n");
    }

    private void goesInto() {
        StringBuilder primitives = new StringBuilder("type(8, 0, false) = 9\n");
        String[] wide = {"10000000", "01001111", "00111111", "00011111", "00001111", "00000111", "00000011", "00000001"};
        int made = 0;
        for (int p = 0; p < 8; p++) {
            for (int result = 0; result < 8; result++) {
                boolean goes = wide[p].charAt(result) == '1';
                primitives.append(method(result, 5, made, result, p)).append("body(" + made + ", 1, 0, 0) "
                    + (goes ? "= 1\n" : "! -1\n"));
                made++;
            }
        }
        s.says(13, "A type GOES INTO one to which it WIDENS (PRIMITIVES), which it IS (REFERENCES).", primitives.toString(), """
            type(8, 0, false) = 9
            type(9, 0, false) = 10
            rows(10) = 11
            rows(9) = 12
            """ + method(0, 5, 0, 9, 10) + "body(0, 1, 0, 0) = 1\n" + method(1, 5, 1, 10, 9) + "body(1, 1, 0, 0) ! -1\n"
            + method(2, 5, 2, 8, 10) + "body(2, 1, 0, 0) = 1\n" + method(3, 5, 3, 8, 4) + "body(3, 1, 0, 0) ! -1\n"
            + method(4, 5, 4, 7, 8) + "body(4, 1, 0, 0) ! -1\n" + method(5, 5, 5, 12, 11) + "body(5, 1, 0, 0) = 1\n"
            + method(6, 5, 6, 11, 12) + "body(6, 1, 0, 0) ! -1\n" + method(7, 5, 7, 9, 11) + "body(7, 1, 0, 0) ! -1\n");
    }

    private void results() {
        String house = """
            type(8, 0, false) = 9
            type(9, 0, false) = 10
            rows(9) = 11
            rows(10) = 12
            rows(3) = 13
            field(9, 0, 5, 5) = 0
            field(9, 1, 5, 9) = 1
            """;
        s.says(13, "What a BODY comes to, by its type as told (of the PARAM, the FIELD, m's RESULT, the ITEMS; 6: as added),"
            + " must GO INTO the RESULT, and is widened;", house
            + method(0, 5, 2, 4, 5) + "body(2, 1, 0, 0) ! -1\n" + method(1, 5, 3, 10, 9) + "body(3, 1, 0, 0) ! -1\n"
            + method(2, 5, 4, 4) + "body(4, 2, 0, 0) ! -1\n" + method(3, 5, 5, 10) + "body(5, 2, 1, 0) ! -1\n"
            + "body(5, 5, 4, 0) ! -1\n" + method(4, 5, 6, 2, 13, 4) + "body(6, 8, 0, 1) ! -1\n"
            + method(5, 5, 7, 10, 11, 4) + "body(7, 8, 0, 1) ! -1\n" + method(6, 5, 8, 3, 3, 3) + "body(8, 6, 0, 1) ! -1\n"
            + method(7, 5, 9, 4, 4, 5) + "body(9, 6, 0, 1) ! -1\nbody(9, 6, 0, 0) = 1\n"
            + method(8, 5, 10, 3) + "body(10, 5, 4, 0) ! -1\n" + method(9, 5, 11, 8) + "body(11, 5, 5, 0) = 1\n");
        s.says(35, "must GO INTO the RESULT, and is widened;", house
            + method(0, 5, 2, 7, 5) + "body(2, 1, 0, 0) = 1\n" + slot(0, 5, -3) + "call(2, -1, 1, 5) = 1\n"
            + slotIs(5, 7, Sentences.d(-3)) + "set(0, -1, 0) = 1\n" + method(1, 5, 3, 6) + "body(3, 2, 0, 0) = 1\n"
            + "call(3, -1, 0, 5) = 1\n" + slotIs(5, 6, Sentences.f(-3)) + method(2, 5, 4, 5, 5) + "body(4, 1, 0, 0) = 1\n"
            + method(3, 5, 5, 6, 5) + "body(5, 5, 4, 0) = 1\ncall(5, -1, 1, 5) = 1\n" + slotIs(5, 6, Sentences.f(-3))
            + method(4, 5, 6, 7, 13, 4) + "body(6, 8, 0, 1) = 1\nrow(13, 1) = 0\n" + slot(0, 3, -9) + "put(0, 0, 0) = 1\n"
            + slot(0, 8, 0) + slot(1, 4, 0) + "call(6, -1, 2, 5) = 1\n" + slotIs(5, 7, Sentences.d(-9))
            + method(5, 5, 7, 6, 4, 4) + "body(7, 6, 0, 1) = 1\n" + slot(0, 4, MAX) + slot(1, 4, MAX)
            + "call(7, -1, 2, 5) = 1\n" + slotIs(5, 6, Sentences.f(-2f)));
        StringBuilder through = new StringBuilder(house + method(0, 5, 2, -1, 4) + "body(2, 1, 0, 0) = 1\n" + slot(0, 4, 5));
        int[] all = {-1, 0, 1, 2, 3, 4, 5, 6, 7, 8, 9, 13};
        for (int i = 0; i < all.length; i++) {
            int kind = all[i] < 0 ? 4 : Math.min(8, all[i]);
            through.append(method(i + 1, 5, i + 3, all[i], 4)).append("body(" + (i + 3) + ", 5, 2, 0) = 1\n")
                .append("call(" + (i + 3) + ", -1, 1, 5) = 1\n").append(slotIs(5, kind, kind == 8 ? -1 : 0));
        }
        s.says(35, "nothing becomes 0, 0.0, NOTHING of each RESULT (also what 5 comes to where m has no RESULT);",
            through.toString());
        s.says(35, "with no RESULT all is given up.", house + slot(0, 5, 7) + "set(0, -1, 0) = 1\n"
            + method(0, 5, 2, -1, 9) + "body(2, 1, 0, 0) = 1\n" + method(1, 5, 3, -1) + "body(3, 2, 0, 0) = 1\n"
            + method(2, 5, 4, 4) + method(3, 5, 5, -1) + "body(5, 5, 4, 0) = 1\n" + method(4, 5, 6, -1, 6, 7)
            + "body(6, 6, 0, 1) = 1\n" + method(5, 5, 7, -1, 13, 4) + "body(7, 8, 0, 1) = 1\n"
            + "object(9) = 0\nrow(13, 1) = 1\n" + slot(0, 8, 0) + slot(5, 7, 99) + "call(2, -1, 1, 5) = 1\n" + slotIs(5, 4, 0)
            + slot(5, 7, 99) + "call(3, -1, 0, 5) = 1\n" + slotIs(5, 4, 0)
            + slot(5, 7, 99) + "call(5, -1, 0, 5) = 1\n" + slotIs(5, 4, 0)
            + slot(0, 6, 1) + slot(1, 7, 1) + "call(6, -1, 2, 5) = 1\n" + slotIs(5, 4, 0)
            + slot(0, 8, 1) + slot(1, 4, 0) + slot(5, 7, 99) + "call(7, -1, 2, 5) = 1\n" + slotIs(5, 4, 0));
    }

    private void badForAny() {
        s.says(13, "BAD is a BODY: of an ABSTRACT METHOD;", "type(8, 0, true) = 9\nfield(9, 0, 5, 4) = 0\nface(0) = 10\n"
            + method(0, 17, 1, 4, 4) + "method(10, 0, 17, 4, 1, 4, 0, 0) = 2\n"
            + Sentences.count(0, 8, "body(1, #, 0, 0) ! -1") + Sentences.count(0, 8, "body(2, #, 0, 0) ! -1")
            + "body(1, 4, 1, 0) ! -1\nmember(1, 10) = -1\n");
        s.says(13, "that does not GO INTO the RESULT;", "type(8, 0, false) = 9\n" + method(0, 5, 0, 3, 4) + method(1, 5, 1, 0, 4)
            + method(2, 5, 2, 8, 4) + method(3, 5, 3, 9, 8) + Sentences.count(0, 3, "body(#, 1, 0, 0) ! -1")
            + "member(0, 10) = 0\n" + Sentences.count(0, 3, "body(#, 0, 0, 0) = 1"));
        s.says(13, "The BODY of a METHOD: 1. BAD. NO: one was told.", "type(8, 0, false) = 9\n" + method(0, 5, 0, 4, 4)
            + Sentences.each("body(0, #, 0, 0) ! -1", -1, 9, 10, MIN, MAX) + Sentences.each("body(#, 0, 0, 0) ! -1", -1, 1, 100, MIN, MAX)
            + "field(9, 0, 5, 4) = 1\nbody(1, 0, 0, 0) ! -1\nbody(0, 1, 0, 0) = 1\nbody(0, 1, 0, 0) ! -2\n");
    }

    private void badParts() {
        String house = "type(8, 0, false) = 9\nrows(4) = 10\nfield(9, 0, 5, 4) = 0\n" + method(0, 5, 1, 4, 4, 10)
            + method(1, 5, 2, -1) + method(2, 5, 3, -1, 4, 4, 4);
        s.says(13, "of which a part is not there, or no such;",
            house + Sentences.each("body(1, 1, #, 0) ! -1", -1, 2, 3, MIN, MAX) + "body(2, 1, 0, 0) ! -1\n"
            + Sentences.each("body(3, 1, #, 0) ! -1", -1, 3, MIN, MAX) + "body(3, 1, 2, 0) = 1\n",
            house + Sentences.each("body(1, 2, #, 0) ! -1", -1, 1, 2, 4, 100, MIN, MAX) + "body(1, 2, 0, 0) = 1\n",
            house + Sentences.each("body(1, 3, #, 0) ! -1", -1, 1, 2, 4, 100, MIN, MAX)
            + Sentences.each("body(1, 3, 0, #) ! -1", -1, 2, 3, MIN, MAX) + "body(2, 3, 0, 0) ! -1\nbody(1, 3, 0, 0) = 1\n",
            house + Sentences.each("body(1, 5, #, 0) ! -1", -1, 0, 4, 100, MIN, MAX) + "body(1, 5, 2, 0) = 1\n",
            house + Sentences.each("body(1, 6, #, 0) ! -1", -1, 2, MIN, MAX) + Sentences.each("body(1, 6, 0, #) ! -1", -1, 2, MIN, MAX)
            + "body(2, 6, 0, 0) ! -1\nbody(1, 6, 0, 0) = 1\n",
            house + Sentences.each("body(1, 8, #, 0) ! -1", -1, 2, MIN, MAX) + Sentences.each("body(1, 8, 1, #) ! -1", -1, 2, MIN, MAX)
            + "body(1, 8, 1, 0) = 1\n");
    }

    private void badParams() {
        String house = """
            type(8, 0, false) = 9
            type(9, 0, false) = 10
            field(9, 0, 5, 5) = 0
            field(9, 1, 5, 9) = 1
            """;
        s.says(13, "3: PARAM i does not GO INTO the FIELD's type;", house + method(0, 5, 2, -1, 4, 6, 0)
            + method(1, 5, 3, -1, 10, 8, 4) + method(2, 5, 4, -1, 9) + """
            body(2, 3, 0, 1) ! -1
            body(2, 3, 0, 2) ! -1
            body(3, 3, 0, 0) ! -1
            body(3, 3, 1, 1) ! -1
            body(3, 3, 1, 2) ! -1
            body(2, 3, 0, 0) = 1
            body(3, 3, 1, 0) = 1
            body(4, 3, 1, 0) = 1
            """);
        s.says(13, "5: m has more PARAMS, or one into which that at its place does not GO;", house
            + method(0, 5, 2, -1, 5, 9) + method(1, 5, 3, -1, 4) + method(2, 5, 4, -1) + method(3, 5, 5, -1, 4, 8)
            + method(4, 5, 6, -1, 6, 9) + method(5, 5, 7, -1, 10, 4) + method(6, 5, 8, -1, 4, 10, 0) + method(7, 5, 9, -1, 5, 9)
            + Sentences.count(3, 7, "body(#, 5, 2, 0) ! -1") + "body(8, 5, 2, 0) = 1\nbody(9, 5, 2, 0) = 1\n");
    }

    private void badReach() {
        String house = """
            type(8, 0, false) = 9
            type(9, 0, false) = 10
            type(8, 0, false) = 11
            face(0) = 12
            field(9, 0, 1, 4) = 0
            method(9, 0, 1, 4, 1, 4, 0, 0) = 1
            field(9, 1, 5, 4) = 2
            method(9, 1, 5, 4, 1, 4, 0, 0) = 3
            """;
        String own = "method(9, 2, 1, 4, 1, 4, 0, 0) = 4\n";
        String child = "method(10, 2, 2, 4, 1, 4, 0, 0) = 4\n";
        String fixed = "method(9, 2, 5, 4, 1, 4, 0, 0) = 4\n";
        String other = "method(11, 2, 1, 4, 1, 4, 0, 0) = 4\n";
        String ofFace = "method(12, 2, 1, 4, 1, 4, 0, 0) = 4\n";
        String[] bodies = {"body(4, 2, 0, 0)", "body(4, 3, 0, 0)", "body(4, 5, 1, 0)"};
        String[] toStatic = {"body(4, 2, 2, 0)", "body(4, 3, 2, 0)", "body(4, 5, 3, 0)"};
        for (int i = 0; i < bodies.length; i++) {
            s.says(13, "2, 3, 5: the FIELD, m is not STATIC, and this METHOD is, or its type IS NOT that which declares it;",
                house + own + bodies[i] + " = 1\n", house + child + bodies[i] + " = 1\n",
                house + fixed + bodies[i] + " ! -1\n" + toStatic[i] + " = 1\n",
                house + other + bodies[i] + " ! -1\n" + toStatic[i] + " = 1\n",
                house + ofFace + bodies[i] + " ! -1\n" + toStatic[i] + " = 1\n");
        }
        s.says(13, "or its type IS NOT that which declares it;", house + """
            field(10, 0, 1, 4) = 4
            method(10, 3, 2, 4, 1, 4, 0, 0) = 5
            method(9, 2, 1, 4, 1, 4, 0, 0) = 6
            body(6, 2, 4, 0) ! -1               // of a child of its type
            body(6, 3, 4, 0) ! -1
            body(6, 5, 5, 0) ! -1
            """);
    }

    private void badAbove() {
        String house = """
            face(0) = 9
            type(8, 0, true) = 10
            type(10, 1, false) = 11
            implement(10, 9) = 1
            """;
        s.says(13, "7: it is STATIC;", house + """
            method(10, 0, 1, 4, 0, 0, 0, 0) = 0
            method(11, 0, 5, 4, 0, 0, 0, 0) = 1
            body(1, 7, 0, 0) ! -1
            """);
        s.says(13, "there is none above, or that is ABSTRACT, STATIC, PRIVATE;", house + """
            method(10, 0, 1, 4, 0, 0, 0, 0) = 0
            body(0, 7, 0, 0) ! -1               // none above it
            method(11, 0, 1, 5, 0, 0, 0, 0) = 1
            body(1, 7, 0, 0) ! -1               // one of the name, but not LIKE it
            method(9, 1, 1, 4, 0, 0, 0, 0) = 2
            body(2, 7, 0, 0) ! -1               // a FACE has no PARENT
            method(10, 1, 1, 4, 0, 0, 0, 0) = 3
            body(3, 7, 0, 0) ! -1               // that of its own FACE is not from its PARENT
            """, house + "method(10, 0, 17, 4, 0, 0, 0, 0) = 0\nmethod(11, 0, 1, 4, 0, 0, 0, 0) = 1\nbody(1, 7, 0, 0) ! -1\n",
            house + "method(10, 0, 5, 4, 0, 0, 0, 0) = 0\nmethod(11, 0, 1, 4, 0, 0, 0, 0) = 1\nbody(1, 7, 0, 0) ! -1\n",
            house + "method(10, 0, 2, 4, 0, 0, 0, 0) = 0\nmethod(11, 0, 1, 4, 0, 0, 0, 0) = 1\nbody(1, 7, 0, 0) ! -1\n", house + """
            method(9, 0, 1, 4, 0, 0, 0, 0) = 0
            method(10, 0, 17, 4, 0, 0, 0, 0) = 1
            method(11, 0, 1, 4, 0, 0, 0, 0) = 2
            body(2, 7, 0, 0) ! -1               // the first that is FOUND counts, not one behind it
            """, house + """
            method(10, 0, 1, 4, 0, 0, 0, 0) = 0
            method(11, 0, 2, 4, 0, 0, 0, 0) = 1
            body(1, 7, 0, 0) = 1                // a PRIVATE one may call what is above it
            """);
    }

    private void badItems() {
        StringBuilder places = new StringBuilder("type(8, 0, false) = 9\nrows(4) = 10\n");
        for (int place = 0; place <= 8; place++) {
            places.append(method(place, 5, place, 5, 10, place)).append("body(" + place + ", 8, 0, 1) "
                + (place >= 1 && place <= 4 ? "= 1\n" : "! -1\n"));
        }
        s.says(13, "8: PARAM i is not of ROWS, PARAM j does not WIDEN to INT.", places.toString(), """
            type(8, 0, false) = 9
            rows(4) = 10
            """ + method(0, 5, 0, -1, 4, 9, 8) + method(1, 5, 1, -1, 10, 10, 4) + """
            body(0, 8, 0, 0) ! -1
            body(0, 8, 1, 0) ! -1
            body(0, 8, 2, 0) ! -1
            body(1, 8, 0, 1) ! -1
            body(1, 8, 2, 2) ! -1
            body(1, 8, 1, 2) = 1
            """);
    }

    private void unusedNumbers() {
        s.says(13, "(Numbers that a kind does not use count for nothing.)", "type(8, 0, false) = 9\ntype(9, 0, false) = 10\n"
            + "field(9, 0, 5, 4) = 0\n" + method(0, 1, 1, 4, 4) + method(1, 5, 2, 4, 4) + method(2, 5, 3, 4, 4)
            + method(3, 5, 4, 4, 4) + method(4, 5, 5, 4, 4) + "method(10, 0, 1, 4, 1, 4, 0, 0) = 6\n" + """
            body(1, 0, MIN, MAX) = 1
            body(2, 1, 0, MAX) = 1
            body(3, 2, 0, -1) = 1
            body(4, 4, 1, MIN) = 1
            body(5, 5, 2, MAX) = 1
            body(6, 7, -1, MAX) = 1
            slot(0, 4, 9) = 1
            call(5, -1, 1, 5) = 1
            bits(5) = 9
            """);
    }

    private void called() {
        s.says(35, "CALLED is of a STATIC or PRIVATE METHOD itself;", """
            type(8, 0, false) = 9
            type(9, 0, false) = 10
            method(9, 0, 2, 4, 0, 0, 0, 0) = 0
            method(9, 1, 5, 4, 0, 0, 0, 0) = 1
            method(10, 0, 1, 4, 0, 0, 0, 0) = 2
            method(10, 1, 5, 4, 0, 0, 0, 0) = 3
            method(9, 2, 1, 4, 0, 0, 0, 0) = 4
            method(9, 3, 1, 4, 0, 0, 0, 0) = 5
            body(0, 4, 1, 0) = 1
            body(1, 4, 2, 0) = 1
            body(2, 4, 3, 0) = 1
            body(3, 4, 4, 0) = 1
            body(4, 5, 0, 0) = 1
            body(5, 5, 1, 0) = 1
            object(10) = 0
            caller(9) = 8
            call(0, 0, 0, 0) = -19
            """ + causeIs(1, 0, 0) + "call(1, 0, 0, 0) = -19\n" + causeIs(2, 1, 0) + "call(4, 0, 0, 0) = -19\n" + causeIs(1, 0, 1)
            + "call(5, 0, 0, 0) = -19\n" + causeIs(2, 1, 1), """
            face(0) = 9
            type(8, 0, false) = 10
            implement(10, 9) = 1
            method(9, 0, 2, 4, 0, 0, 0, 0) = 0  // PRIVATE, of a FACE
            method(10, 0, 1, 4, 0, 0, 0, 0) = 1 // LIKE it, and all may use it
            method(9, 1, 1, 4, 0, 0, 0, 0) = 2
            body(0, 4, 3, 0) = 1
            body(1, 4, 4, 0) = 1
            body(2, 5, 0, 0) = 1
            object(10) = 0
            open(0, true) = 0
            call(0, 0, 0, 0) = -19
            """ + causeIs(3, 0, 0) + "call(2, 0, 0, 0) = -19\n" + causeIs(3, 0, 1));
        s.says(35, "by 7 the one above itself;", """
            type(8, 0, false) = 9
            type(9, 0, false) = 10
            type(10, 0, false) = 11
            method(9, 0, 1, 4, 0, 0, 0, 0) = 0
            method(10, 0, 1, 4, 0, 0, 0, 0) = 1
            method(11, 0, 1, 4, 0, 0, 0, 0) = 2
            body(0, 4, 1, 0) = 1
            body(1, 7, 0, 0) = 1
            body(2, 7, 0, 0) = 1
            object(11) = 0
            call(0, 0, 0, 0) = -19              // 2 is IN FORCE, then 1, then 0, and not 2 once more
            """ + causeIs(1, 0, 2) + "count(3) = 3\n");
        s.says(35, "of others that IN FORCE for the OBJECT's type (by 5: the same OBJECT; none: it FAILS by ABSTRACT).", """
            face(0) = 9
            type(8, 0, true) = 10
            type(10, 0, false) = 11
            type(11, 0, false) = 12
            implement(10, 9) = 1
            field(10, 0, 1, 4) = 0
            method(9, 0, 17, 4, 0, 0, 0, 0) = 1
            method(11, 0, 1, 4, 0, 0, 0, 0) = 2
            method(12, 0, 1, 4, 0, 0, 0, 0) = 3
            method(10, 1, 1, 4, 0, 0, 0, 0) = 4
            body(2, 4, 5, 0) = 1
            body(3, 2, 0, 0) = 1
            body(4, 5, 1, 0) = 1
            object(11) = 0
            object(12) = 1
            object(12) = 2
            slot(0, 4, 9) = 1
            set(0, 1, 0) = 1
            call(1, 0, 0, 5) = -19
            """ + causeIs(5, 2, 0) + "call(4, 0, 0, 5) = -19\n" + causeIs(5, 2, 1) + """
            call(1, 1, 0, 5) = 1
            bits(5) = 9
            call(4, 1, 0, 5) = 1                // the same OBJECT
            bits(5) = 9
            call(4, 2, 0, 5) = 1
            bits(5) = 0
            call(2, 1, 0, 5) = 1                // told of 11, IN FORCE is that of 12
            bits(5) = 9
            """);
        s.says(35, "none: it FAILS by ABSTRACT).", """
            face(0) = 9
            type(8, 0, true) = 10
            type(10, 0, false) = 11
            implement(10, 9) = 1
            method(9, 0, 17, 4, 0, 0, 0, 0) = 0
            method(10, 1, 16, 4, 0, 0, 0, 0) = 1
            method(10, 2, 1, 4, 0, 0, 0, 0) = 2
            method(11, 3, 1, 4, 0, 0, 0, 0) = 3
            body(2, 5, 0, 0) = 1
            body(3, 5, 2, 0) = 1
            object(11) = 0
            call(0, 0, 0, 0) = -19
            """ + causeIs(7, 0, 0) + "count(3) = 0\ncall(1, 0, 0, 0) = -19\n" + causeIs(7, 1, 0) + "call(2, 0, 0, 0) = -19\n"
            + causeIs(7, 0, 1) + "count(3) = 1\ncall(3, 0, 0, 0) = -19\n" + causeIs(7, 0, 2) + "count(3) = 3\n");
    }

    private void deep() {
        StringBuilder chain = new StringBuilder("type(8, 0, false) = 9\n" + method(0, 5, 0, 4, 4) + "body(0, 1, 0, 0) = 1\n");
        for (int m = 1; m <= 13; m++) {
            chain.append(method(m, 5, m, 4, 4)).append("body(" + m + ", 5, " + (m - 1) + ", 0) = 1\n");
        }
        s.says(35, "One that would be called within 12 others FAILS by DEEP.", chain + slot(0, 4, 31) + """
            call(11, -1, 1, 5) = 1              // 0 within 11 others
            bits(5) = 31
            count(3) = 12
            """ + slot(5, 7, 1) + "call(12, -1, 1, 5) = -19\n" + causeIs(10, 0, 12) + slotIs(5, 7, 1) + "count(3) = 24\n"
            + "call(13, -1, 1, 5) = -19\n" + causeIs(10, 1, 12) + "count(3) = 36\n", """
            type(8, 0, false) = 9
            method(9, 0, 1, 4, 0, 0, 0, 0) = 0
            body(0, 5, 0, 0) = 1                // itself
            object(9) = 0
            call(0, 0, 0, 5) = -19
            """ + causeIs(10, 0, 12) + "count(3) = 12\n", aboveOneAnother());
    }

    private static String aboveOneAnother() {
        StringBuilder run = new StringBuilder("type(8, 0, false) = 9\nmethod(9, 0, 1, 4, 0, 0, 0, 0) = 0\n");
        for (int t = 10; t <= 21; t++) {
            run.append("type(" + (t - 1) + ", 0, false) = " + t + "\nmethod(" + t + ", 0, 1, 4, 0, 0, 0, 0) = " + (t - 9) + "\n"
                + "body(" + (t - 9) + ", 7, 0, 0) = 1\n");
        }
        return run + "object(20) = 0\nobject(21) = 1\ncall(0, 0, 0, 5) = 1\ncount(3) = 12\ncall(0, 1, 0, 5) = -19\n"
            + causeIs(10, 0, 12) + "count(3) = 24\n";
    }

    private void noAccess() {
        s.says(35, "BODIES ask no ACCESS, no FINAL.", """
            type(8, 1, false) = 9
            type(9, 2, false) = 10
            field(9, 0, 10, 4) = 0              // PRIVATE, FINAL
            field(9, 1, 14, 4) = 1              // PRIVATE, STATIC, FINAL
            method(9, 0, 2, 4, 0, 0, 0, 0) = 2
            method(10, 1, 1, 4, 1, 4, 0, 0) = 3
            method(10, 2, 1, 4, 1, 4, 0, 0) = 4
            method(10, 3, 1, 4, 0, 0, 0, 0) = 5
            method(10, 4, 1, 4, 0, 0, 0, 0) = 6
            method(10, 5, 1, 4, 0, 0, 0, 0) = 7
            body(2, 4, 3, 0) = 1
            body(3, 3, 0, 0) = 1
            body(4, 3, 1, 0) = 1
            body(5, 2, 0, 0) = 1
            body(6, 2, 1, 0) = 1
            body(7, 5, 2, 0) = 1
            object(10) = 0
            slot(0, 4, 6) = 1
            call(3, 0, 1, 5) = 1
            call(5, 0, 0, 5) = 1
            bits(5) = 6
            call(4, 0, 1, 5) = 1
            call(6, 0, 0, 5) = 1
            bits(5) = 6
            call(7, 0, 0, 5) = -19
            """ + causeIs(3, 2, 1) + "get(0, 0, 4, 5) ! -16\ncall(2, 0, 0, 5) ! -16\n");
    }

    private void endings() {
        s.says(36, "What one FAILS by ends all around it by the same;", "type(8, 0, false) = 9\n" + method(0, 5, 0, 4)
            + method(1, 5, 1, -1) + method(2, 5, 2, 8) + "body(0, 4, 6, 0) = 1\nbody(1, 5, 0, 0) = 1\nbody(2, 5, 1, 0) = 1\n"
            + slot(5, 1, 3) + "call(0, -1, 0, 5) = -19\n" + causeIs(6, 0, 0) + "call(1, -1, 0, 5) = -19\n" + causeIs(6, 0, 1)
            + "call(2, -1, 0, 5) = -19\n" + causeIs(6, 0, 2) + slotIs(5, 1, 3) + "count(3) = 6\ncount(4) = 3\n");
        s.says(35, "what FIELDS became stays.", """
            type(8, 0, false) = 9
            field(9, 0, 1, 4) = 0
            field(9, 1, 5, 4) = 1
            method(9, 0, 1, -1, 1, 4, 0, 0) = 2
            method(9, 1, 1, -1, 1, 4, 0, 0) = 3
            method(9, 2, 1, -1, 1, 4, 0, 0) = 4
            body(2, 3, 0, 0) = 1
            body(3, 3, 1, 0) = 1
            body(4, 4, 1, 0) = 1
            object(9) = 0
            slot(0, 4, 6) = 1
            call(2, 0, 1, 5) = 1
            call(3, 0, 1, 5) = 1
            call(4, 0, 1, 5) = -19
            get(0, 0, 4, 6) = 1
            bits(6) = 6
            get(1, 0, 4, 6) = 1
            bits(6) = 6
            """);
    }

    private void body() {
        s.says(13, "of several the first;", "type(8, 0, false) = 9\n" + method(0, 5, 0, 4, 4) + """
            body(0, 1, 0, 0) = 1
            body(0, 1, 1, 0) ! -1               // BAD is ahead of NO
            body(0, 9, 0, 0) ! -1
            body(0, 4, 9, 0) ! -1
            body(0, 2, 0, 0) ! -1
            body(0, 7, 0, 0) ! -1
            body(0, 4, 1, 0) ! -2
            slot(0, 4, 3) = 1
            call(0, -1, 1, 5) = 1
            bits(5) = 3
            """);
    }
}
