/** What the document says of MEMBERS: promises 11, 12 and 14 to 22, and their terms. */
final class MemberSentences {
    private static final int MIN = Integer.MIN_VALUE;
    private static final int MAX = Integer.MAX_VALUE;
    private final Sentences s;

    private MemberSentences(Sentences s) {
        this.s = s;
    }

    static void tell(Sentences s) {
        MemberSentences m = new MemberSentences(s);
        m.howMany();
        m.namesAndMarks();
        m.whoMay();
        m.fieldsInTypes();
        m.methodsHave();
        m.methodMarks();
        m.like();
        m.overrides();
        m.field();
        m.fieldRefused();
        m.method();
        m.methodRefused();
        m.member();
        m.declared();
        m.hides();
        m.openAndCaller();
        m.may();
    }

    private void howMany() {
        String house = "face(0) = 9\ntype(8, 0, false) = 10\ntype(8, 0, false) = 11\ntype(8, 0, false) = 12\n";
        StringBuilder members = new StringBuilder(house);
        for (int m = 0; m < 99; m++) {
            int type = 9 + m / 30;
            int name = m % 15;
            boolean isField = m % 30 < 15;
            members.append(isField ? "field(" + type + ", " + name + ", 13, 4)"
                : "method(" + type + ", " + name + ", 5, -1, 0, 0, 0, 0)").append(" = ").append(m).append('\n');
        }
        String refused = """
            field(10, 19, 5, 4) ! -3
            field(9, 19, 13, 4) ! -3
            method(10, 19, 5, -1, 0, 0, 0, 0) ! -3
            method(9, 19, 17, 4, 3, 4, 4, 4) ! -3
            count(1) = 100
            member(99, 0) = 12
            member(100, 0) ! -3
            """;
        s.says(11, "2 MEMBERS, 0, 1, .. as they come, 100 at most,", house + """
            field(10, 0, 1, 4) = 0
            method(10, 0, 1, 4, 0, 0, 0, 0) = 1
            field(10, 0, 1, 4) ! -2
            method(10, 0, 1, 4, 0, 0, 0, 0) ! -2
            field(8, 0, 1, 4) ! -1
            method(8, 0, 1, 4, 0, 0, 0, 0) ! -1
            field(9, 0, 13, 4) = 2
            method(9, 0, 1, 4, 0, 0, 0, 0) = 3
            count(1) = 4
            """, members + "count(1) = 99\nfield(12, 18, 5, 4) = 99\n" + refused);
        s.says(12, "2 MEMBERS, 0, 1, .. as they come, 100 at most,",
            members + "method(12, 18, 5, -1, 0, 0, 0, 0) = 99\n" + refused);
        String declares = house + "rows(10) = 13\ntype(8, 0, true) = 14\n";
        s.says(11, "are declared by a CLASS (not ROOT) or FACE: FIELDS, METHODS.", declares + """
            field(9, 0, 13, 4) = 0
            field(10, 0, 1, 4) = 1
            field(14, 0, 1, 4) = 2
            field(8, 0, 1, 4) ! -1
            field(13, 0, 1, 4) ! -1
            field(13, 0, 13, 4) ! -1
            field(4, 0, 1, 4) ! -1
            """);
        s.says(12, "are declared by a CLASS (not ROOT) or FACE: FIELDS, METHODS.", declares + """
            method(9, 0, 1, 4, 0, 0, 0, 0) = 0
            method(10, 0, 1, 4, 0, 0, 0, 0) = 1
            method(14, 0, 1, 4, 0, 0, 0, 0) = 2
            method(8, 0, 1, 4, 0, 0, 0, 0) ! -1
            method(13, 0, 1, 4, 0, 0, 0, 0) ! -1
            method(4, 0, 1, 4, 0, 0, 0, 0) ! -1
            """);
    }

    private void namesAndMarks() {
        String house = "type(8, 0, false) = 9\n";
        s.says(11, "A name 0 .. 19.", house + "field(9, 0, 1, 4) = 0\nfield(9, 19, 1, 4) = 1\n"
            + Sentences.each("field(9, #, 1, 4) ! -1", -1, 20, MIN, MAX) + "member(0, 1) = 0\nmember(1, 1) = 19\n");
        s.says(12, "A name 0 .. 19.", house
            + "method(9, 0, 1, 4, 0, 0, 0, 0) = 0\nmethod(9, 19, 1, 4, 0, 0, 0, 0) = 1\n"
            + Sentences.each("method(9, #, 1, 4, 0, 0, 0, 0) ! -1", -1, 20, MIN, MAX) + "member(1, 1) = 19\n");
        s.says(16, "A name 0 .. 19.", house + "findField(9, 0, 2) = -1\nfindField(9, 19, 2) = -1\n"
            + Sentences.each("findField(9, #, 2) ! -2", -1, 20, MIN, MAX));
        s.says(11, "and 4 more STATIC, 8 FINAL, 16 ABSTRACT (METHODS).", house
            + Sentences.count(0, 15, "field(9, #, #, 4) = #") + Sentences.count(0, 15, "member(#, 2) = #")
            + Sentences.each("field(9, 17, #, 4) ! -1", 16, 17, 20, 31, 32, -1, MIN, MAX),
            house + """
            field(9, 0, 1, 4) = 0               // neither STATIC nor FINAL: each OBJECT has its own
            field(9, 1, 5, 4) = 1               // STATIC: one for all
            field(9, 2, 9, 4) = 2               // FINAL
            object(9) = 0
            object(9) = 1
            slot(0, 4, 7) = 1
            set(0, 0, 0) = 1
            set(1, 0, 0) = 1
            set(2, 0, 0) ! -16
            get(0, 1, 4, 1) = 1
            bits(1) = 0
            get(1, 1, 4, 1) = 1
            bits(1) = 7
            get(0, -1, 4, 1) ! -11
            get(1, -1, 4, 1) = 1
            """);
    }

    private void whoMay() {
        String house = """
            type(8, 1, false) = 9
            type(9, 2, false) = 10
            type(8, 1, false) = 11
            type(8, 2, false) = 12
            field(9, 0, 0, 4) = 0
            field(9, 1, 1, 4) = 1
            field(9, 2, 2, 4) = 2
            field(9, 3, 3, 4) = 3
            object(9) = 0
            object(10) = 1
            """;
        s.says(22, "MARKS: 0 to 3 who may: 0 its PACKAGE, 1 all, 2 PRIVATE: its type alone, 3 GUARDED: its PACKAGE,"
            + " and types that ARE its type;",
            house + "caller(9) = 8\n" + mays("1111", 1),
            house + "caller(10) = 8\n" + mays("0101", 1),
            house + "caller(11) = 8\n" + mays("1101", 1),
            house + "caller(12) = 8\n" + mays("0100", 1),
            house + "caller(8) = 8\n" + mays("0100", 1));
        s.says(22, "ACCESS by THE CALLER, a type (ROOT at first), to a MEMBER of type d:",
            house + mays("0100", 1), """
            type(8, 0, false) = 9
            field(9, 0, 0, 4) = 0
            field(9, 1, 2, 4) = 1
            may(0, -1) = 1                      // ROOT is in PACKAGE 0
            may(1, -1) = 0
            """);
        s.says(22, "who may 1;", house + "caller(12) = 8\nmay(1, -1) = 1\nmay(1, 0) = 1\nmay(0, 0) = 0\n");
        s.says(22, "or THE CALLER is d;", house + "may(2, 0) = 0\ncaller(9) = 8\nmay(2, 0) = 1\nmay(2, -1) = 1\n"
            + "may(2, 1) = 1\ncaller(10) = 9\nmay(2, 1) = 0\n");
        s.says(22, "or it is not PRIVATE and both are in one PACKAGE;", house + """
            caller(11) = 8
            may(0, -1) = 1
            may(0, 0) = 1
            may(3, -1) = 1
            may(3, 0) = 1
            may(2, 0) = 0
            caller(12) = 11
            may(0, 0) = 0
            may(3, 0) = 0
            """);
        String guarded = """
            type(8, 1, false) = 9
            type(9, 2, false) = 10
            type(10, 3, false) = 11
            type(9, 2, false) = 12
            rows(10) = 13
            field(9, 0, 3, 4) = 0
            field(9, 1, 7, 4) = 1
            method(9, 0, 3, 4, 0, 0, 0, 0) = 2
            method(9, 1, 7, 4, 0, 0, 0, 0) = 3
            object(9) = 0
            object(10) = 1
            object(11) = 2
            object(12) = 3
            row(13, 1) = 4
            caller(10) = 8
            """;
        s.says(22, "or it is GUARDED, THE CALLER IS d, and the MEMBER is STATIC, or the THING is an OBJECT whose type"
            + " IS THE CALLER.", guarded + """
            may(0, 0) = 0
            may(0, 1) = 1
            may(0, 2) = 1
            may(0, 3) = 0
            may(2, 0) = 0
            may(2, 1) = 1
            may(2, 2) = 1
            may(2, 3) = 0
            """ + Sentences.count(-1, 4, "may(1, #) = 1") + Sentences.count(-1, 4, "may(3, #) = 1"),
            guarded + """
            type(8, 2, false) = 14
            caller(14) = 10                     // it IS NOT d
            object(14) = 5
            may(1, -1) = 0
            may(0, 5) = 0
            may(0, 1) = 0
            """, """
            type(8, 1, false) = 9
            type(9, 2, false) = 10
            field(9, 0, 0, 4) = 0
            field(9, 1, 4, 4) = 1
            object(10) = 0
            caller(10) = 8
            may(0, 0) = 0                       // its PACKAGE alone, not GUARDED
            may(1, 0) = 0
            """);
        s.says(22, "An OPENED MEMBER lets all.", house + """
            caller(12) = 8
            may(2, 0) = 0
            open(2, true) = 0
            may(2, 0) = 1
            may(2, -1) = 1
            may(0, 0) = 0
            open(0, true) = 0
            may(0, 0) = 1
            may(3, 0) = 0
            open(3, true) = 0
            may(3, 0) = 1
            open(2, false) = 1
            may(2, 0) = 0
            get(3, 0, 4, 0) = 1
            get(2, 0, 4, 0) ! -16
            """);
        s.says(22, "(A THING that is NOTHING or no OBJECT is none whose type IS THE CALLER.)", guarded + """
            may(0, -1) = 0
            may(0, 4) = 0
            may(2, -1) = 0
            may(2, 4) = 0
            get(0, -1, 4, 0) ! -16              // so ACCESS is ahead of NULL
            get(0, 4, 4, 0) ! -16               // and of ARGUMENT
            """);
    }

    /** What may() answers for the members 0 to 3 by a thing. */
    private static String mays(String answers, int thing) {
        StringBuilder run = new StringBuilder();
        for (int m = 0; m < answers.length(); m++) {
            run.append("may(").append(m).append(", ").append(thing).append(") = ").append(answers.charAt(m)).append('\n');
        }
        return run.toString();
    }

    private void fieldsInTypes() {
        s.says(11, "A FIELD has a type.", """
            type(8, 0, false) = 9
            rows(9) = 10
            field(9, 0, 1, 0) = 0
            field(9, 1, 1, 7) = 1
            field(9, 2, 1, 8) = 2
            field(9, 3, 1, 9) = 3
            field(9, 4, 1, 10) = 4
            member(0, 4) = 0
            member(1, 4) = 7
            member(2, 4) = 8
            member(3, 4) = 9
            member(4, 4) = 10
            field(9, 5, 1, -1) ! -1
            field(9, 5, 1, 11) ! -1
            """);
        StringBuilder others = new StringBuilder("face(0) = 9\n");
        for (int marks = -1; marks <= 32; marks++) {
            if (marks != 13) {
                others.append("field(9, 0, ").append(marks).append(", 4) ! -1\n");
            }
        }
        s.says(11, "Those of FACES have the MARKS 13.", others + "field(9, 0, 13, 4) = 0\nmember(0, 2) = 13\n");
        s.says(11, "In a type no two have one name.", """
            type(8, 0, false) = 9
            type(9, 0, false) = 10
            face(0) = 11
            field(9, 3, 1, 4) = 0
            field(9, 3, 1, 4) ! -2
            field(9, 3, 6, 5) ! -2
            field(9, 4, 1, 4) = 1
            field(10, 3, 1, 4) = 2              // in another one there may be one
            field(11, 3, 13, 4) = 3
            field(11, 3, 13, 5) ! -2
            method(9, 3, 1, 4, 0, 0, 0, 0) = 4  // and a METHOD of the name
            field(9, 3, 1, 4) ! -2
            method(9, 5, 1, 4, 0, 0, 0, 0) = 5
            field(9, 5, 1, 4) = 6
            """);
        StringBuilder first = new StringBuilder("type(8, 0, false) = 9\nrows(4) = 10\n");
        int[] of = {0, 1, 2, 3, 4, 5, 6, 7, 8, 9, 10};
        for (int i = 0; i < of.length; i++) {
            int as = Math.min(8, of[i]);
            first.append("field(9, " + i + ", 5, " + of[i] + ") = " + i + "\nslot(0, 2, 99) = 1\nget(" + i + ", -1, " + as
                + ", 0) = 1\nkind(0) = " + as + "\nbits(0) = " + (as == 8 ? -1 : 0) + "\n");
        }
        s.says(29, "STATIC ones have one VALUE (0, 0.0, NOTHING at first).", first.toString(), """
            type(8, 0, false) = 9
            type(9, 0, false) = 10
            field(9, 0, 5, 4) = 0
            field(10, 0, 5, 4) = 1
            object(9) = 0
            object(10) = 1
            slot(0, 4, 5) = 1
            set(0, 0, 0) = 1
            get(0, 1, 4, 1) = 1
            bits(1) = 5
            get(0, -1, 4, 1) = 1
            bits(1) = 5
            get(1, 1, 4, 1) = 1                 // another one of the name is another one
            bits(1) = 0
            """);
    }

    private void methodsHave() {
        s.says(12, "A METHOD has a RESULT (a type; NONE, -1: nothing), up to 3 PARAMS (types), a BODY.", """
            type(8, 0, false) = 9
            rows(9) = 10
            method(9, 0, 1, -1, 0, 0, 0, 0) = 0
            method(9, 0, 1, 0, 1, 7, 0, 0) = 1
            method(9, 0, 1, 10, 2, 8, 9, 0) = 2
            method(9, 0, 1, 9, 3, 0, 10, 4) = 3
            member(0, 4) = -1
            member(1, 4) = 0
            member(2, 4) = 10
            member(3, 4) = 9
            member(0, 5) = 0
            member(1, 5) = 1
            member(2, 5) = 2
            member(3, 5) = 3
            member(1, 6) = 7
            member(1, 7) = -1
            member(2, 6) = 8
            member(2, 7) = 9
            member(2, 8) = -1
            member(3, 6) = 0
            member(3, 7) = 10
            member(3, 8) = 4
            member(3, 10) = 0
            method(9, 1, 1, -1, 4, 4, 4, 4) ! -1
            method(9, 1, 1, -2, 0, 0, 0, 0) ! -1
            """);
    }

    /** All MARKS of METHODS in a CLASS, an ABSTRACT one and a FACE; 1: they can be. */
    private void methodMarks() {
        String plain = "1111" + "1111" + "1111" + "1111" + "0000" + "0000" + "0000" + "0000";
        String inAbstract = "1111" + "1111" + "1111" + "1111" + "1101" + "0000" + "0000" + "0000";
        String inFace = "0110" + "0110" + "0000" + "0000" + "0100" + "0000" + "0000" + "0000";
        s.says(12, "ABSTRACT ones are in FACES, ABSTRACT CLASSES alone,", marksRun("type(8, 0, false)", plain),
            marksRun("type(8, 0, true)", inAbstract), marksRun("face(0)", inFace));
        s.says(12, "and neither STATIC, FINAL nor PRIVATE;", """
            type(8, 0, true) = 9
            method(9, 0, 16, 4, 0, 0, 0, 0) = 0
            method(9, 1, 17, 4, 0, 0, 0, 0) = 1
            method(9, 2, 19, 4, 0, 0, 0, 0) = 2
            method(9, 3, 18, 4, 0, 0, 0, 0) ! -1
            method(9, 3, 20, 4, 0, 0, 0, 0) ! -1
            method(9, 3, 21, 4, 0, 0, 0, 0) ! -1
            method(9, 3, 24, 4, 0, 0, 0, 0) ! -1
            method(9, 3, 25, 4, 0, 0, 0, 0) ! -1
            method(9, 3, 29, 4, 0, 0, 0, 0) ! -1
            """, """
            face(0) = 9
            method(9, 0, 17, 4, 0, 0, 0, 0) = 0
            method(9, 1, 18, 4, 0, 0, 0, 0) ! -1
            method(9, 1, 21, 4, 0, 0, 0, 0) ! -1
            method(9, 1, 25, 4, 0, 0, 0, 0) ! -1
            """);
        s.says(12, "those of FACES have 1 or 2 of who may, and are not FINAL.", """
            face(0) = 9
            method(9, 0, 0, 4, 0, 0, 0, 0) ! -1
            method(9, 0, 3, 4, 0, 0, 0, 0) ! -1
            method(9, 0, 4, 4, 0, 0, 0, 0) ! -1
            method(9, 0, 7, 4, 0, 0, 0, 0) ! -1
            method(9, 0, 16, 4, 0, 0, 0, 0) ! -1
            method(9, 0, 19, 4, 0, 0, 0, 0) ! -1
            method(9, 0, 9, 4, 0, 0, 0, 0) ! -1
            method(9, 0, 10, 4, 0, 0, 0, 0) ! -1
            method(9, 0, 13, 4, 0, 0, 0, 0) ! -1
            method(9, 0, 14, 4, 0, 0, 0, 0) ! -1
            method(9, 0, 1, 4, 0, 0, 0, 0) = 0
            method(9, 1, 2, 4, 0, 0, 0, 0) = 1
            method(9, 2, 5, 4, 0, 0, 0, 0) = 2
            method(9, 3, 6, 4, 0, 0, 0, 0) = 3
            """);
    }

    private static String marksRun(String type, String can) {
        StringBuilder run = new StringBuilder(type + " = 9\n");
        int made = 0;
        for (int marks = 0; marks < 32; marks++) {
            boolean may = can.charAt(marks) == '1';
            run.append("method(9, " + marks % 20 + ", " + marks + ", 4, " + marks / 20 + ", 4, 0, 0) "
                + (may ? "= " + made : "! -1") + "\n");
            if (may) {
                run.append("member(" + made + ", 2) = " + marks + "\n");
                made++;
            }
        }
        return run + Sentences.each("method(9, 19, #, 4, 2, 4, 4, 0) ! -1", -1, 32, 33, MIN, MAX);
    }

    private void like() {
        String house = "type(8, 0, false) = 9\ntype(9, 0, false) = 10\n";
        s.says(12, "LIKE are METHODS of one name with the same PARAMS and RESULT; in a type no two are LIKE.", house + """
            method(9, 0, 1, 4, 2, 4, 5, 0) = 0
            method(9, 0, 1, 4, 2, 4, 5, 0) ! -2
            method(9, 0, 6, 4, 2, 4, 5, 9) ! -2 // MARKS, and what is beyond n, make no other one
            method(9, 1, 1, 4, 2, 4, 5, 0) = 1
            method(9, 0, 1, 5, 2, 4, 5, 0) = 2
            method(9, 0, 1, -1, 2, 4, 5, 0) = 3
            method(9, 0, 1, 4, 2, 5, 4, 0) = 4
            method(9, 0, 1, 4, 1, 4, 5, 0) = 5
            method(9, 0, 1, 4, 3, 4, 5, 0) = 6
            method(9, 0, 1, 4, 2, 4, 4, 0) = 7
            method(9, 0, 1, 4, 3, 4, 5, 1) = 8
            method(9, 0, 1, 4, 0, 4, 5, 0) = 9
            method(10, 0, 1, 4, 2, 4, 5, 0) = 10
            method(10, 0, 1, 4, 2, 4, 5, 0) ! -2
            method(9, 0, 1, -1, 2, 4, 5, 0) ! -2
            method(9, 0, 1, 4, 3, 4, 5, 1) ! -2
            """, house + """
            field(9, 0, 1, 4) = 0
            method(9, 0, 1, 4, 0, 0, 0, 0) = 1  // a FIELD is LIKE none
            """);
        s.says(17, "LIKE are METHODS of one name with the same PARAMS and RESULT;", house + """
            method(9, 0, 1, 4, 2, 4, 5, 0) = 0
            method(10, 0, 1, 4, 2, 5, 4, 0) = 1
            method(10, 0, 1, 5, 2, 4, 5, 0) = 2
            method(10, 1, 1, 4, 2, 4, 5, 0) = 3
            method(10, 0, 1, 4, 1, 4, 5, 0) = 4
            method(10, 0, 1, 4, 3, 4, 5, 5) = 5
            method(10, 0, 1, -1, 2, 4, 5, 0) = 6
            findMethod(10, 0, 0) = -1
            findMethod(10, 0, 2) = 0
            method(10, 0, 2, 4, 2, 4, 5, 0) = 7
            findMethod(10, 0, 0) = 7
            """);
    }

    private void overrides() {
        String chain = "type(8, 0, false) = 9\ntype(9, 1, false) = 10\ntype(10, 0, false) = 11\n";
        s.says(18, "m OVERRIDES n: LIKE,", chain + """
            method(9, 0, 1, 4, 1, 4, 0, 0) = 0
            method(10, 0, 1, 4, 1, 4, 0, 0) = 1
            method(10, 1, 1, 4, 1, 4, 0, 0) = 2
            method(10, 0, 1, 5, 1, 4, 0, 0) = 3
            method(10, 0, 1, 4, 1, 5, 0, 0) = 4
            method(10, 0, 1, 4, 0, 4, 0, 0) = 5
            method(10, 0, 1, 4, 2, 4, 4, 0) = 6
            overrides(1, 0) = 1
            """ + Sentences.count(2, 6, "overrides(#, 0) = 0"));
        s.says(18, "neither of both STATIC or PRIVATE,", chain + """
            method(9, 0, 1, 4, 0, 0, 0, 0) = 0
            method(9, 1, 2, 4, 0, 0, 0, 0) = 1
            method(9, 2, 5, 4, 0, 0, 0, 0) = 2
            method(10, 0, 2, 4, 0, 0, 0, 0) = 3
            method(10, 1, 1, 4, 0, 0, 0, 0) = 4
            method(10, 2, 1, 4, 0, 0, 0, 0) = 5
            method(11, 0, 5, 4, 0, 0, 0, 0) = 6
            method(11, 1, 2, 4, 0, 0, 0, 0) = 7
            method(11, 2, 5, 4, 0, 0, 0, 0) = 8
            overrides(3, 0) = 0
            overrides(6, 0) = 0
            overrides(4, 1) = 0
            overrides(7, 1) = 0
            overrides(7, 4) = 0
            overrides(5, 2) = 0
            overrides(8, 2) = 0
            overrides(8, 5) = 0
            """);
        s.says(18, "m's type IS n's, another one,", """
            face(0) = 9
            face(0) = 10
            type(8, 0, false) = 11
            type(11, 0, false) = 12
            type(11, 0, false) = 13
            implement(10, 9) = 1
            implement(11, 10) = 1
            method(9, 0, 1, 4, 0, 0, 0, 0) = 0
            method(10, 0, 1, 4, 0, 0, 0, 0) = 1
            method(11, 0, 1, 4, 0, 0, 0, 0) = 2
            method(12, 0, 1, 4, 0, 0, 0, 0) = 3
            method(13, 0, 1, 4, 0, 0, 0, 0) = 4
            overrides(0, 0) = 0
            overrides(2, 2) = 0
            overrides(1, 0) = 1
            overrides(0, 1) = 0
            overrides(2, 1) = 1
            overrides(2, 0) = 1
            overrides(3, 2) = 1
            overrides(2, 3) = 0
            overrides(3, 0) = 1
            overrides(3, 4) = 0
            overrides(4, 3) = 0
            """);
        s.says(18, "and n's who may is 1 or 3, or both types are in one PACKAGE.", chain + """
            method(9, 0, 0, 4, 0, 0, 0, 0) = 0
            method(9, 1, 1, 4, 0, 0, 0, 0) = 1
            method(9, 3, 3, 4, 0, 0, 0, 0) = 2
            method(10, 0, 1, 4, 0, 0, 0, 0) = 3
            method(10, 1, 0, 4, 0, 0, 0, 0) = 4
            method(10, 3, 0, 4, 0, 0, 0, 0) = 5
            method(11, 0, 0, 4, 0, 0, 0, 0) = 6
            overrides(3, 0) = 0                 // its PACKAGE alone, and 10 is in another one
            overrides(4, 1) = 1
            overrides(5, 2) = 1
            overrides(6, 0) = 1                 // 9 and 11 are in one PACKAGE
            overrides(6, 3) = 1
            method(11, 1, 1, 4, 0, 0, 0, 0) = 7
            overrides(7, 4) = 0
            overrides(7, 1) = 1
            """);
    }

    private void field() {
        s.says(11, "A FIELD: its number.", """
            type(8, 0, false) = 9
            face(0) = 10
            field(9, 3, 14, 5) = 0
            field(10, 3, 13, 10) = 1
            member(0, 0) = 9
            member(0, 1) = 3
            member(0, 2) = 14
            member(0, 3) = 1
            member(0, 4) = 5
            member(1, 0) = 10
            member(1, 4) = 10
            count(1) = 2
            count(5) = 2
            """);
    }

    private void fieldRefused() {
        String house = """
            type(8, 0, false) = 9
            face(0) = 10
            rows(9) = 11
            """;
        s.says(11, "BAD: a type that declares none; a name; MARKS (0 to 15; of FACES 13 alone); no type that it is of.", house
            + Sentences.each("field(#, 0, 13, 4) ! -1", 0, 7, 8, 11, 12, -1, MIN, MAX)
            + Sentences.each("field(9, #, 13, 4) ! -1", -1, 20, MIN, MAX)
            + Sentences.each("field(9, 0, #, 4) ! -1", -1, 16, 29, MIN, MAX)
            + Sentences.each("field(10, 0, #, 4) ! -1", 0, 1, 5, 9, 12, 14, 15, 29, -1)
            + Sentences.each("field(9, 0, 13, #) ! -1", -1, 12, 60, MIN, MAX)
            + "field(9, 0, 0, 4) = 0\nfield(9, 19, 15, 11) = 1\nfield(10, 0, 13, 0) = 2\n");
        s.says(11, "NO: a FIELD of the name is declared there; the type is CLOSED (and it is not STATIC).", house + """
            type(9, 0, false) = 12
            type(12, 0, false) = 13
            field(12, 0, 1, 4) = 0
            field(12, 0, 1, 4) ! -2
            field(12, 0, 5, 4) ! -2
            row(11, 2) = 0
            field(9, 5, 1, 4) = 1               // ROWS of it close it not
            object(12) = 1
            field(12, 1, 1, 4) ! -2
            field(9, 1, 1, 4) ! -2              // of its PARENT: an OBJECT of one that IS it
            field(12, 1, 5, 4) = 2              // STATIC ones may come
            field(9, 1, 4, 4) = 3
            field(13, 1, 1, 4) = 4              // no OBJECT of 13 or of one that IS it
            field(10, 1, 13, 4) = 5
            field(12, 1, 5, 4) ! -2
            """);
        String full = house + Sentences.count(0, 19, "field(9, #, 5, 4) = #")
            + methods(9, 20, 80) + "count(1) = 100\n";
        s.says(11, "(and it is not STATIC). FULL.", full + """
            field(10, 0, 13, 4) ! -3
            field(9, 3, 5, 4) ! -2              // NO is ahead of FULL
            field(9, 20, 5, 4) ! -1             // BAD is ahead of both
            field(9, 3, 16, 4) ! -1
            field(10, 0, 5, 4) ! -1
            type(8, 0, false) = 12
            field(12, 0, 1, 4) ! -3
            object(12) = 0
            field(12, 0, 1, 4) ! -2             // CLOSED
            field(12, 0, 5, 4) ! -3
            field(12, 0, 1, 13) ! -1
            """);
    }

    /** So many METHODS of a type, none LIKE another, the first of a given number. */
    private static String methods(int type, int first, int n) {
        StringBuilder run = new StringBuilder();
        for (int i = 0; i < n; i++) {
            run.append("method(" + type + ", " + i % 20 + ", 5, -1, 1, " + i / 20 + ", 0, 0) = " + (first + i) + "\n");
        }
        return run.toString();
    }

    private void method() {
        s.says(12, "A METHOD with n PARAMS a, b, c (what is beyond n counts for nothing): its number.", """
            type(8, 0, false) = 9
            method(9, 0, 1, 4, 0, -1, 60, MAX) = 0
            method(9, 1, 1, 4, 1, 4, -1, MIN) = 1
            method(9, 2, 1, 4, 2, 4, 5, -7) = 2
            method(9, 3, 1, 4, 3, 4, 5, 6) = 3
            member(0, 5) = 0
            member(0, 6) = -1
            member(0, 7) = -1
            member(0, 8) = -1
            member(1, 5) = 1
            member(1, 6) = 4
            member(1, 7) = -1
            member(2, 6) = 4
            member(2, 7) = 5
            member(2, 8) = -1
            member(3, 6) = 4
            member(3, 7) = 5
            member(3, 8) = 6
            method(9, 0, 1, 4, 0, 1, 2, 3) ! -2 // LIKE the first
            method(9, 1, 1, 4, 1, 4, 2, 3) ! -2
            method(9, 2, 1, 4, 2, 4, 5, 6) ! -2
            """);
    }

    private void methodRefused() {
        String house = """
            type(8, 0, false) = 9
            face(0) = 10
            rows(9) = 11
            type(8, 0, true) = 12
            """;
        s.says(12, "BAD: a type that declares none; a name; MARKS (0 to 31) that can't be; result, n, PARAMS.", house
            + Sentences.each("method(#, 0, 1, 4, 0, 0, 0, 0) ! -1", 0, 7, 8, 11, 13, -1, MIN, MAX)
            + Sentences.each("method(9, #, 1, 4, 0, 0, 0, 0) ! -1", -1, 20, MIN, MAX)
            + Sentences.each("method(9, 0, #, 4, 0, 0, 0, 0) ! -1", -1, 16, 17, 31, 32, MIN, MAX)
            + Sentences.each("method(12, 0, #, 4, 0, 0, 0, 0) ! -1", -1, 18, 20, 24, 31, 32, 33, 48, MIN, MAX)
            + Sentences.each("method(10, 0, #, 4, 0, 0, 0, 0) ! -1", -1, 0, 3, 9, 16, 18, 21, 25, 33, MIN, MAX)
            + Sentences.each("method(9, 0, 1, #, 0, 0, 0, 0) ! -1", -2, 13, 60, MIN, MAX)
            + Sentences.each("method(9, 0, 1, 4, #, 4, 4, 4) ! -1", -1, 4, MIN, MAX)
            + Sentences.each("method(9, 0, 1, 4, 1, #, 4, 4) ! -1", -1, 13, MIN, MAX)
            + Sentences.each("method(9, 0, 1, 4, 2, 4, #, 4) ! -1", -1, 13, MIN, MAX)
            + Sentences.each("method(9, 0, 1, 4, 3, 4, 4, #) ! -1", -1, 13, MIN, MAX)
            + "method(9, 0, 1, 12, 3, 12, 11, 10) = 0\nmethod(12, 19, 19, -1, 0, 0, 0, 0) = 1\n");
        s.says(12, "NO: a LIKE one is declared there. FULL.", house + """
            method(9, 0, 1, 4, 1, 4, 0, 0) = 0
            method(9, 0, 1, 4, 1, 4, 0, 0) ! -2
            method(9, 0, 2, 4, 1, 4, 0, 0) ! -2
            method(12, 0, 1, 4, 1, 4, 0, 0) = 1
            object(9) = 0
            method(9, 1, 1, 4, 0, 0, 0, 0) = 2  // one of a CLOSED type may come
            """, house + methods(9, 0, 80) + methods(12, 80, 20) + """
            method(9, 0, 1, 4, 0, 0, 0, 0) ! -3
            method(9, 0, 1, -1, 1, 0, 0, 0) ! -2        // NO is ahead of FULL
            method(9, 0, 1, -1, 1, 60, 0, 0) ! -1       // BAD is ahead of both
            method(9, 0, 16, -1, 1, 0, 0, 0) ! -1
            method(9, 0, 1, -1, 4, 0, 0, 0) ! -1
            method(8, 0, 1, -1, 1, 0, 0, 0) ! -1
            """);
    }

    private void member() {
        String house = """
            face(0) = 9
            type(8, 0, true) = 10
            field(10, 3, 10, 5) = 0
            method(10, 4, 19, -1, 1, 8, 0, 0) = 1
            method(9, 5, 5, 9, 3, 0, 1, 2) = 2
            method(10, 6, 8, 4, 2, 4, 7, 0) = 3
            field(9, 7, 13, 10) = 4
            """;
        s.says(14, "Of a MEMBER: 0 its type that declares it, 1 name, 2 MARKS, 3 1 a FIELD, 0 a METHOD, 4 what a FIELD is"
            + " of, RESULT,", house + table(new int[][] {{10, 3, 10, 1, 5}, {10, 4, 19, 0, -1}, {9, 5, 5, 0, 9},
                {10, 6, 8, 0, 4}, {9, 7, 13, 1, 10}}, 0));
        s.says(14, "5 how many PARAMS (FIELDS NONE), 6 + i PARAM i (NONE: none such; to 8),", house
            + table(new int[][] {{-1, -1, -1, -1}, {1, 8, -1, -1}, {3, 0, 1, 2}, {2, 4, 7, -1}, {-1, -1, -1, -1}}, 5)
            + "method(10, 8, 8, 4, 0, 0, 0, 0) = 5\nmember(5, 5) = 0\nmember(5, 6) = -1\n");
        s.says(14, "9 OPENED (1, 0),", house + """
            member(0, 9) = 0
            member(1, 9) = 0
            open(0, true) = 0
            member(0, 9) = 1
            member(1, 9) = 0
            open(1, true) = 0
            member(1, 9) = 1
            open(0, false) = 1
            member(0, 9) = 0
            member(1, 9) = 1
            """);
        s.says(14, "10 its BODY's kind (FIELDS, ABSTRACT: NONE).", house + """
            member(0, 10) = -1
            member(1, 10) = -1
            member(2, 10) = 0
            member(3, 10) = 0
            member(4, 10) = -1
            body(3, 6, 0, 0) = 1
            member(3, 10) = 6
            body(2, 4, 3, 0) = 1
            member(2, 10) = 4
            """);
        s.says(14, "BAD: no MEMBER (answers -3 then), another what (-3).", house
            + Sentences.each("member(#, 0) ! -3", -1, 5, 99, 100, MIN, MAX)
            + Sentences.each("member(0, #) ! -3", -1, 11, 12, MIN, MAX)
            + Sentences.each("member(1, #) ! -3", -1, 11, MIN, MAX) + "member(5, 11) ! -3\nmember(-1, 9) ! -3\n");
    }

    private static String table(int[][] answers, int firstWhat) {
        StringBuilder run = new StringBuilder();
        for (int m = 0; m < answers.length; m++) {
            for (int i = 0; i < answers[m].length; i++) {
                run.append("member(" + m + ", " + (firstWhat + i) + ") = " + answers[m][i] + "\n");
            }
        }
        return run.toString();
    }

    private void declared() {
        s.says(15, "The i-th MEMBER that a type declares. BAD.", """
            type(8, 0, false) = 9
            type(9, 0, false) = 10
            face(0) = 11
            rows(9) = 12
            field(9, 1, 1, 4) = 0
            method(10, 0, 1, 4, 0, 0, 0, 0) = 1
            method(9, 0, 1, 4, 0, 0, 0, 0) = 2
            field(11, 0, 13, 4) = 3
            field(9, 0, 2, 4) = 4
            declared(9, 0) = 0
            declared(9, 1) = 2
            declared(9, 2) = 4
            declared(10, 0) = 1                 // none of its PARENT
            declared(11, 0) = 3
            """ + Sentences.each("declared(9, #) ! -1", -1, 3, MIN, MAX)
            + "declared(10, 1) ! -1\ndeclared(11, 1) ! -1\n"
            + Sentences.each("declared(#, 0) ! -1", 0, 7, 8, 12, 13, -1, MIN, MAX));
    }

    private void hides() {
        s.says(18, "1: m OVERRIDES n (METHODS), m HIDES n (FIELDS of one name, m's type IS n's, another one); else 0.", """
            face(0) = 9
            type(8, 0, false) = 10
            type(10, 1, false) = 11
            type(10, 1, false) = 12
            implement(10, 9) = 1
            field(9, 0, 13, 4) = 0
            field(10, 0, 2, 5) = 1
            field(11, 0, 4, 8) = 2
            field(12, 0, 1, 4) = 3
            field(11, 1, 1, 4) = 4
            overrides(1, 0) = 1
            overrides(2, 1) = 1                 // PRIVATE or STATIC, and of any type
            overrides(2, 0) = 1
            overrides(0, 1) = 0
            overrides(1, 2) = 0
            overrides(1, 1) = 0
            overrides(2, 3) = 0
            overrides(3, 2) = 0
            overrides(4, 1) = 0
            """);
        s.says(18, "BAD: not both of a sort.", """
            type(8, 0, false) = 9
            type(9, 0, false) = 10
            field(9, 0, 1, 4) = 0
            method(9, 0, 1, 4, 0, 0, 0, 0) = 1
            field(10, 0, 1, 4) = 2
            method(10, 0, 1, 4, 0, 0, 0, 0) = 3
            overrides(2, 0) = 1
            overrides(3, 1) = 1
            overrides(2, 1) ! -1
            overrides(3, 0) ! -1
            overrides(0, 1) ! -1
            overrides(1, 0) ! -1
            """ + Sentences.each("overrides(#, 0) ! -1", -1, 4, 100, MIN, MAX)
            + Sentences.each("overrides(1, #) ! -1", -1, 4, 100, MIN, MAX) + "overrides(-1, -1) ! -1\noverrides(4, 4) ! -1\n");
    }

    private void openAndCaller() {
        s.says(20, "A MEMBER is OPENED, or not any more: what it was (1, 0). BAD.", """
            type(8, 0, false) = 9
            field(9, 0, 2, 4) = 0
            method(9, 0, 2, 4, 0, 0, 0, 0) = 1
            open(0, false) = 0
            open(0, true) = 0
            open(0, true) = 1
            member(0, 9) = 1
            member(1, 9) = 0
            may(0, -1) = 1
            may(1, -1) = 0
            open(1, true) = 0
            open(0, false) = 1
            open(0, false) = 0
            member(0, 9) = 0
            member(1, 9) = 1
            may(0, -1) = 0
            """ + Sentences.each("open(#, true) ! -1", -1, 2, 100, MIN, MAX) + "open(2, false) ! -1\nopen(-1, false) ! -1\n");
        s.says(21, "THE CALLER becomes a REFERENCE (no ROWS): what it was. BAD.", """
            type(8, 0, true) = 9
            face(0) = 10
            rows(9) = 11
            caller(9) = 8
            caller(9) = 9
            caller(10) = 9
            """ + Sentences.each("caller(#) ! -1", 0, 7, 11, 12, -1, MIN, MAX) + "caller(8) = 10\ncaller(8) = 8\n");
    }

    private void may() {
        s.says(22, "1: THE CALLER has ACCESS to a MEMBER by a THING (NONE: NOTHING); 0. BAD.", """
            type(8, 1, false) = 9
            type(9, 2, false) = 10
            field(9, 0, 3, 4) = 0
            method(9, 0, 1, 4, 0, 0, 0, 0) = 1
            object(10) = 0
            object(8) = 1
            may(0, 0) = 0
            may(1, 0) = 1
            may(1, -1) = 1
            may(1, 1) = 1                       // a THING of any type
            caller(10) = 8
            may(0, 0) = 1
            may(0, 1) = 0
            may(0, -1) = 0
            """ + Sentences.each("may(#, 0) ! -1", -1, 2, 100, MIN, MAX)
            + Sentences.each("may(1, #) ! -1", -2, 2, 80, MIN, MAX));
    }
}
