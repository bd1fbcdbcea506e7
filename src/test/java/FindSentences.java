/** What the document says of FOUND and IN FORCE: promises 16, 17 and 19. */
final class FindSentences {
    private static final int MIN = Integer.MIN_VALUE;
    private static final int MAX = Integer.MAX_VALUE;
    /** 9, 10, 11 FACES, 11 with 9; 12 a CLASS with 10; 13 its child with 11 and 10. */
    private static final String HOUSE = """
        face(0) = 9
        face(0) = 10
        face(0) = 11
        type(8, 0, false) = 12
        type(12, 1, false) = 13
        rows(13) = 14
        implement(11, 9) = 1
        implement(12, 10) = 1
        implement(13, 11) = 1
        implement(13, 10) = 2
        """;
    private final Sentences s;

    private FindSentences(Sentences s) {
        this.s = s;
    }

    static void tell(Sentences s) {
        FindSentences f = new FindSentences(s);
        f.fieldsByWay0();
        f.fieldsByWay1();
        f.fieldsByWay2();
        f.methodsLikewise();
        f.staticOfFaces();
        f.noneThere();
        f.findRefused();
        f.forceAsksFor();
        f.forceInClasses();
        f.forceOfFacesMethods();
        f.forceFromFaces();
        f.noneInForce();
        f.inForceRefused();
    }

    /** A METHOD of name 0 with no PARAMS and RESULT INT. */
    private static String method(int type, int marks, int number) {
        return "method(" + type + ", 0, " + marks + ", 4, 0, 0, 0, 0) = " + number + "\n";
    }

    private void fieldsByWay0() {
        s.says(16, "FOUND: ways to a FIELD of a name from a type: 0: the one that it declares.", HOUSE + """
            field(12, 0, 1, 4) = 0
            field(10, 1, 13, 4) = 1
            field(13, 2, 2, 4) = 2
            field(13, 3, 0, 4) = 3
            findField(12, 0, 0) = 0
            findField(13, 0, 0) = -1            // not that of its PARENT
            findField(10, 1, 0) = 1
            findField(12, 1, 0) = -1            // nor that of a FACE
            findField(13, 2, 0) = 2             // whoever may
            findField(13, 3, 0) = 3
            findField(13, 4, 0) = -1
            """);
    }

    private void fieldsByWay1() {
        s.says(16, "1: of those with 1 of who may: the one that it declares;", HOUSE + """
            field(13, 0, 1, 4) = 0
            field(12, 0, 1, 4) = 1
            field(11, 0, 13, 4) = 2
            findField(13, 0, 1) = 0
            field(13, 1, 0, 4) = 3
            field(13, 2, 2, 4) = 4
            field(13, 3, 3, 4) = 5
            findField(13, 1, 1) = -1
            findField(13, 2, 1) = -1
            findField(13, 3, 1) = -1
            field(12, 1, 1, 4) = 6
            field(9, 2, 13, 4) = 7
            field(12, 3, 5, 4) = 8
            findField(13, 1, 1) = 6             // one that may not be used hides none
            findField(13, 2, 1) = 7
            findField(13, 3, 1) = 8
            """);
        s.says(16, "else the first that is FOUND so from its FACES, in order; else from its PARENT.", HOUSE + """
            field(12, 0, 1, 4) = 0
            findField(13, 0, 1) = 0
            field(10, 0, 13, 4) = 1
            findField(13, 0, 1) = 1             // FACES are ahead of the PARENT
            findField(12, 0, 1) = 0
            field(9, 0, 13, 4) = 2
            findField(13, 0, 1) = 2             // the first FACE and all of it is ahead of the second
            field(11, 0, 13, 4) = 3
            findField(13, 0, 1) = 3
            findField(11, 0, 1) = 3
            findField(9, 0, 1) = 2
            """, """
            face(0) = 9
            type(8, 0, false) = 10
            type(10, 0, false) = 11
            type(11, 0, false) = 12
            implement(10, 9) = 1
            field(9, 0, 13, 4) = 0
            findField(12, 0, 1) = 0             // from its PARENT likewise, and so on up
            field(11, 0, 2, 4) = 1
            findField(12, 0, 1) = 0
            field(10, 0, 1, 4) = 2
            findField(12, 0, 1) = 2
            """);
    }

    private void fieldsByWay2() {
        s.says(16, "2: any: the one that it declares; else from its PARENT so; else from its FACES so, in order.", HOUSE + """
            field(10, 0, 13, 4) = 0
            findField(13, 0, 2) = 0
            field(9, 0, 13, 4) = 1
            findField(13, 0, 2) = 0             // the FACE of its PARENT is ahead of its own
            field(12, 0, 2, 4) = 2
            findField(13, 0, 2) = 2             // PRIVATE or not
            field(13, 0, 3, 4) = 3
            findField(13, 0, 2) = 3
            """, HOUSE + """
            field(9, 1, 13, 4) = 0
            findField(13, 1, 2) = 0
            field(11, 1, 13, 4) = 1
            findField(13, 1, 2) = 1
            findField(12, 1, 2) = -1
            """, """
            face(0) = 9
            face(0) = 10
            type(8, 0, false) = 11
            implement(11, 10) = 1
            implement(11, 9) = 2
            field(9, 0, 13, 4) = 0
            field(10, 0, 13, 4) = 1
            findField(11, 0, 2) = 1             // as they are in order, not as they came
            findField(11, 0, 1) = 1
            """);
    }

    private void methodsLikewise() {
        s.says(17, "To a METHOD LIKE one at hand: likewise, but by 1, too, from its PARENT ahead of its FACES;", HOUSE
            + method(11, 1, 0) + "findMethod(13, 0, 1) = 0\nfindMethod(13, 0, 2) = 0\nfindMethod(13, 0, 0) = -1\n"
            + method(10, 1, 1) + """
            findMethod(13, 0, 1) = 1            // from its PARENT and that one's FACE
            findMethod(13, 0, 2) = 1
            """ + method(12, 0, 2) + """
            findMethod(13, 0, 1) = 1            // that of the PARENT may not be used
            findMethod(13, 0, 2) = 2
            findMethod(12, 0, 0) = 2
            """ + method(13, 2, 3) + """
            findMethod(13, 0, 0) = 3
            findMethod(13, 0, 1) = 1
            findMethod(13, 0, 2) = 3
            """, HOUSE + method(12, 1, 0) + method(10, 1, 1) + method(11, 17, 2) + """
            findMethod(13, 1, 1) = 0            // it is PARENT, then FACES, other than with FIELDS
            findMethod(13, 1, 2) = 0
            findMethod(11, 1, 1) = 2            // ABSTRACT or not
            findMethod(10, 0, 0) = 1
            """, HOUSE + method(9, 1, 0) + """
            method(13, 0, 1, 5, 0, 0, 0, 0) = 1
            method(13, 0, 1, 4, 1, 4, 0, 0) = 2
            method(13, 1, 1, 4, 0, 0, 0, 0) = 3
            findMethod(13, 0, 2) = 0            // none of the others is LIKE it
            findMethod(13, 0, 0) = -1
            findMethod(9, 1, 2) = -1
            """);
    }

    private void staticOfFaces() {
        s.says(17, "and by 1, 2 a STATIC one of a FACE is passed over, unless it is that FACE from which is looked.", HOUSE
            + method(9, 5, 0) + """
            findMethod(9, 0, 0) = 0
            findMethod(9, 0, 1) = 0
            findMethod(9, 0, 2) = 0
            findMethod(11, 0, 1) = -1           // it is another FACE's
            findMethod(11, 0, 2) = -1
            findMethod(13, 0, 1) = -1
            findMethod(13, 0, 2) = -1
            """ + method(10, 1, 1) + """
            findMethod(13, 0, 1) = 1            // one behind it is looked for
            findMethod(13, 0, 2) = 1
            """, HOUSE + method(11, 5, 0) + method(9, 1, 1) + """
            findMethod(13, 0, 1) = 1            // the FACE's own FACES are looked through, too
            findMethod(13, 0, 2) = 1
            findMethod(11, 0, 1) = 0
            findMethod(11, 0, 2) = 0
            """, HOUSE + method(12, 5, 0) + """
            findMethod(13, 0, 1) = 0            // a STATIC one of a CLASS is not passed over
            findMethod(13, 0, 2) = 0
            """, HOUSE + method(9, 6, 0) + """
            findMethod(9, 0, 0) = 0
            findMethod(9, 0, 1) = -1            // not 1 of who may
            findMethod(9, 0, 2) = 0
            findMethod(11, 0, 2) = -1
            """);
    }

    private void noneThere() {
        String members = HOUSE + "field(12, 0, 1, 4) = 0\nmethod(12, 0, 1, 4, 0, 0, 0, 0) = 1\n";
        s.says(16, "(No PARENT, no FACES: none.)", members
            + Sentences.count(0, 2, "findField(8, 0, #) = -1") + Sentences.count(0, 2, "findField(4, 0, #) = -1")
            + Sentences.count(0, 2, "findField(9, 0, #) = -1") + Sentences.count(0, 2, "findField(14, 0, #) = -1"));
        s.says(17, "(No PARENT, no FACES: none.)", members
            + Sentences.count(0, 2, "findMethod(8, 1, #) = -1") + Sentences.count(0, 2, "findMethod(4, 1, #) = -1")
            + Sentences.count(0, 2, "findMethod(9, 1, #) = -1") + Sentences.count(0, 2, "findMethod(14, 1, #) = -1"));
    }

    private void findRefused() {
        String members = HOUSE + "field(12, 0, 1, 4) = 0\nmethod(12, 0, 1, 4, 0, 0, 0, 0) = 1\n";
        s.says(16, "A FIELD that is FOUND by a name and way; NONE. BAD: answers -2: no type, name, way 0 to 2.", members
            + "findField(12, 0, 0) = 0\nfindField(13, 0, 1) = 0\nfindField(13, 0, 2) = 0\nfindField(13, 19, 2) = -1\n"
            + Sentences.each("findField(#, 0, 2) ! -2", -1, 15, 60, MIN, MAX)
            + Sentences.each("findField(12, #, 2) ! -2", -1, 20, MIN, MAX)
            + Sentences.each("findField(12, 0, #) ! -2", -1, 3, MIN, MAX));
        s.says(17, "A METHOD that is FOUND, LIKE a METHOD m; NONE. BAD: -2 likewise, no METHOD.", members
            + "findMethod(12, 1, 0) = 1\nfindMethod(13, 1, 0) = -1\nfindMethod(13, 1, 1) = 1\nfindMethod(13, 1, 2) = 1\n"
            + Sentences.each("findMethod(#, 1, 2) ! -2", -1, 15, 60, MIN, MAX)
            + Sentences.each("findMethod(12, #, 2) ! -2", -1, 0, 2, 100, MIN, MAX)
            + Sentences.each("findMethod(12, 1, #) ! -2", -1, 3, MIN, MAX));
    }

    private void forceAsksFor() {
        s.says(19, "IN FORCE for a CLASS t and a METHOD m (not STATIC, not PRIVATE; t IS m's type):", HOUSE
            + method(12, 1, 0) + """
            method(12, 1, 2, 4, 0, 0, 0, 0) = 1
            method(12, 2, 5, 4, 0, 0, 0, 0) = 2
            inForce(12, 0) = 0
            inForce(13, 0) = 0
            inForce(12, 1) ! -2
            inForce(12, 2) ! -2
            inForce(8, 0) ! -2
            inForce(14, 0) ! -2
            inForce(9, 0) ! -2
            type(8, 0, true) = 15
            inForce(15, 0) ! -2
            implement(15, 9) = 1
            method(9, 5, 1, 4, 0, 0, 0, 0) = 3
            inForce(15, 3) = 3                  // an ABSTRACT CLASS is a CLASS, too
            inForce(13, 3) = 3
            inForce(12, 3) ! -2
            """);
    }

    private void forceInClasses() {
        String chain = "type(8, 0, true) = 9\ntype(9, 1, true) = 10\ntype(10, 0, false) = 11\n";
        s.says(19, "of t, its PARENT, and so on up, the first that declares one that is m, or OVERRIDES m,", chain
            + method(9, 1, 0) + "inForce(11, 0) = 0\n" + method(10, 3, 1) + """
            inForce(9, 0) = 0
            inForce(10, 0) = 1
            inForce(11, 0) = 1
            inForce(11, 1) = 1
            """ + method(11, 0, 2) + """
            inForce(11, 0) = 2
            inForce(11, 1) = 2
            inForce(10, 0) = 1
            inForce(9, 0) = 0
            """, chain + method(9, 0, 0) + method(10, 0, 1) + """
            inForce(10, 0) = 0                  // 1 is LIKE 0, but does not OVERRIDE it: another PACKAGE
            inForce(10, 1) = 1
            inForce(11, 0) = 0
            inForce(11, 1) = 1
            """ + method(11, 0, 2) + """
            inForce(11, 0) = 2
            inForce(11, 1) = 1
            inForce(11, 2) = 2
            """, chain + method(9, 1, 0) + method(10, 2, 1) + method(11, 5, 2) + """
            inForce(11, 0) = 0                  // PRIVATE and STATIC ones OVERRIDE none
            """);
    }

    private void forceOfFacesMethods() {
        String house = """
            face(0) = 9
            type(8, 1, true) = 10
            type(10, 2, false) = 11
            implement(11, 9) = 1
            """ + method(9, 17, 0);
        s.says(19, "or, m being of a FACE, is LIKE m, with 1 of who may, and not STATIC;", house + "inForce(11, 0) = -1\n"
            + method(10, 1, 1) + "inForce(11, 0) = 1             // though 10 IS NOT 9\noverrides(1, 0) = 0\n",
            house + method(10, 0, 1) + "inForce(11, 0) = -1\n",
            house + method(10, 2, 1) + "inForce(11, 0) = -1\n",
            house + method(10, 3, 1) + "inForce(11, 0) = -1\n",
            house + method(10, 5, 1) + "inForce(11, 0) = -1\n",
            house + method(11, 5, 1) + method(10, 1, 2) + "inForce(11, 0) = 2\n",
            house + method(11, 3, 1) + "inForce(11, 0) = 1             // it OVERRIDES, so GUARDED is enough\n",
            house + "method(10, 0, 1, 5, 0, 0, 0, 0) = 1\nmethod(10, 0, 1, 4, 1, 4, 0, 0) = 2\ninForce(11, 0) = -1\n", """
            type(8, 0, false) = 9
            type(9, 1, false) = 10
            """ + method(9, 0, 0) + method(10, 1, 1) + "inForce(10, 0) = 0             // m is of a CLASS\n");
    }

    private void forceFromFaces() {
        String house = """
            face(0) = 9
            face(0) = 10
            implement(10, 9) = 1
            face(0) = 11
            type(8, 0, true) = 12
            type(12, 0, false) = 13
            """;
        s.says(19, "if there is no such, or it is ABSTRACT: of the ANCESTORS of t that are FACES, in order, the first that"
            + " declares one that is m or OVERRIDES m, and is not ABSTRACT, gives it;",
            house + "implement(12, 9) = 1\n" + method(9, 1, 0) + "inForce(12, 0) = 0\ninForce(13, 0) = 0\n",
            house + "implement(13, 10) = 1\n" + method(9, 1, 0) + method(10, 1, 1) + """
            inForce(13, 0) = 1                  // 10 is ahead of 9
            inForce(13, 1) = 1
            """,
            house + "implement(12, 9) = 1\nimplement(13, 10) = 1\n" + method(9, 1, 0) + method(10, 1, 1) + """
            inForce(13, 0) = 0                  // 9 comes by the PARENT, ahead of 10
            inForce(13, 1) = 1                  // 0 is not 1 and does not OVERRIDE it
            """,
            house + "implement(13, 10) = 1\n" + method(9, 1, 0) + method(10, 17, 1) + """
            inForce(13, 0) = 0                  // 1 is ABSTRACT, so the next gives it
            inForce(13, 1) = -1
            """,
            house + "implement(12, 9) = 1\n" + method(9, 1, 0) + method(12, 17, 1) + """
            inForce(13, 0) = 0                  // that of the CLASS is ABSTRACT
            inForce(13, 1) = -1                 // 0 is not 1 and does not OVERRIDE it
            """,
            house + "implement(12, 9) = 1\nimplement(13, 11) = 1\n" + method(9, 17, 0) + method(11, 1, 1) + """
            inForce(13, 0) = -1                 // 1 is LIKE 0, but 11 IS NOT 9
            inForce(13, 1) = 1
            """,
            house + "implement(12, 9) = 1\n" + method(9, 1, 0) + method(12, 2, 1) + method(13, 5, 2) + """
            inForce(13, 0) = 0                  // PRIVATE and STATIC ones of CLASSES are none
            """,
            house + "implement(13, 10) = 1\n" + method(9, 17, 0) + method(10, 5, 1) + """
            inForce(13, 0) = -1                 // a STATIC one of a FACE OVERRIDES none
            """,
            house + "implement(13, 10) = 1\n" + method(9, 17, 0) + method(10, 2, 1) + """
            inForce(13, 0) = -1                 // nor a PRIVATE one
            """);
        s.says(19, "or it is ABSTRACT:", """
            type(8, 0, true) = 9
            type(9, 0, true) = 10
            type(10, 0, false) = 11
            """ + method(9, 1, 0) + method(10, 17, 1) + """
            inForce(9, 0) = 0
            inForce(10, 0) = -1                 // the first is ABSTRACT; the one above it does not count any more
            inForce(11, 0) = -1
            inForce(11, 1) = -1
            """ + method(11, 1, 2) + "inForce(11, 0) = 2\ninForce(11, 1) = 2\n");
    }

    private void noneInForce() {
        s.says(19, "if there is no such either: there is none.", """
            face(0) = 9
            type(8, 0, true) = 10
            type(10, 0, false) = 11
            implement(10, 9) = 1
            """ + method(9, 17, 0) + "method(10, 1, 17, 4, 0, 0, 0, 0) = 1\n" + """
            inForce(10, 0) = -1
            inForce(11, 0) = -1
            inForce(10, 1) = -1
            inForce(11, 1) = -1
            """);
    }

    private void inForceRefused() {
        s.says(19, "The METHOD IN FORCE for a type, NONE: there is none. BAD: -2: the type is no CLASS, m no METHOD, STATIC,"
            + " PRIVATE, or the type IS NOT m's.", HOUSE + method(12, 1, 0) + """
            field(12, 0, 1, 4) = 1
            method(12, 1, 5, 4, 0, 0, 0, 0) = 2
            method(12, 2, 2, 4, 0, 0, 0, 0) = 3
            method(9, 0, 17, 4, 0, 0, 0, 0) = 4
            method(13, 3, 1, 4, 0, 0, 0, 0) = 5
            method(11, 5, 17, 4, 0, 0, 0, 0) = 6
            inForce(12, 0) = 0
            inForce(13, 4) = 0                  // LIKE 4, and all may use it
            inForce(13, 6) = -1
            """ + Sentences.each("inForce(#, 0) ! -2", 0, 7, 8, 9, 11, 14, 15, -1, MIN, MAX)
            + Sentences.each("inForce(12, #) ! -2", -1, 1, 2, 3, 4, 5, 6, 7, MIN, MAX)
            + "inForce(9, 4) ! -2\ninForce(11, 6) ! -2\n");
    }
}
