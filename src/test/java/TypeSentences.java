/** What the document says of TYPES: promises 1 to 10, and their terms. */
final class TypeSentences {
    private final Sentences s;

    private TypeSentences(Sentences s) {
        this.s = s;
    }

    static void tell(Sentences s) {
        TypeSentences t = new TypeSentences(s);
        t.newObjects();
        t.howMany();
        t.whatTypesAre();
        t.packages();
        t.whatIsWhat();
        t.ancestors();
        t.widening();
        t.names();
        t.type();
        t.face();
        t.rows();
        t.implement();
        t.implementRefused();
        t.about();
        t.ancestor();
        t.is();
        t.meet();
        t.letter();
    }

    private void newObjects() {
        s.says(1, "`ReflectMirror()`: TYPES 0 to 8; THE CALLER is ROOT.", """
            count(0) = 9
            about(0, 0) = 0
            about(8, 0) = 1
            about(9, 0) ! -1
            caller(8) = 8
            """, """
            count(1) = 0
            count(2) = 0
            count(3) = 0
            count(4) = 0
            count(5) = 0
            """);
        s.says(1, "There from the first: 0 BOOLEAN, 1 CHAR, 2 BYTE, 3 SHORT, 4 INT, 5 LONG, 6 FLOAT, 7 DOUBLE"
            + " (PRIMITIVES; 1 to 7 are NUMBERS), 8 ROOT.",
            Sentences.count(0, 7, "about(#, 0) = 0") + "about(8, 0) = 1",
            """
            type(8, 0, false) = 9
            method(9, 0, 5, -1, 2, 0, 4, 0) = 0
            body(0, 6, 0, 0) ! -1               // BOOLEAN is no NUMBER
            body(0, 6, 0, 1) ! -1
            body(0, 6, 1, 0) ! -1
            method(9, 1, 5, -1, 1, 1, 0, 0) = 1
            method(9, 1, 5, -1, 1, 2, 0, 0) = 2
            method(9, 1, 5, -1, 1, 3, 0, 0) = 3
            method(9, 1, 5, -1, 1, 4, 0, 0) = 4
            method(9, 1, 5, -1, 1, 5, 0, 0) = 5
            method(9, 1, 5, -1, 1, 6, 0, 0) = 6
            method(9, 1, 5, -1, 1, 7, 0, 0) = 7
            method(9, 1, 5, -1, 1, 8, 0, 0) = 8
            """ + Sentences.count(1, 7, "body(#, 6, 0, 0) = 1") + "body(8, 6, 0, 0) ! -1");
    }

    private void howMany() {
        String mixed = """
            type(8, 0, false) = 9
            face(1) = 10
            rows(9) = 11
            type(7, 0, false) ! -1
            face(4) ! -1
            rows(12) ! -1
            rows(9) = 11                        // it is there: no number more
            type(8, 2, true) = 12
            count(0) = 13
            """;
        String toFiftyNine = mixed + Sentences.count(13, 58, "face(0) = #");
        String refused = """
            type(8, 0, false) ! -3
            face(0) ! -3
            rows(8) ! -3
            rows(12) ! -3
            rows(9) = 11
            count(0) = 60
            about(59, 3) = 3
            about(60, 0) ! -1
            """;
        s.says(2, "1 TYPES, 0, 1, .. as they come, 60 at most.", mixed,
            toFiftyNine + "count(0) = 59\ntype(8, 3, false) = 59\n" + refused);
        s.says(3, "1 TYPES, 0, 1, .. as they come, 60 at most.", toFiftyNine + "face(3) = 59\n" + refused);
        s.says(4, "1 TYPES, 0, 1, .. as they come, 60 at most.",
            mixed + "type(8, 3, false) = 13\n" + Sentences.count(14, 58, "face(0) = #") + "rows(13) = 59\n" + refused);
    }

    private void whatTypesAre() {
        s.says(6, "8 and all that come are REFERENCES: CLASSES (some ABSTRACT), FACES,", """
            type(8, 0, false) = 9
            type(8, 0, true) = 10
            face(0) = 11
            rows(4) = 12
            about(9, 0) = 1
            about(10, 0) = 2
            about(11, 0) = 3
            about(12, 0) = 4
            meet(8, 8) = 8
            meet(9, 10) = 8
            meet(11, 12) = 8
            meet(7, 8) ! -1
            is(9, 8) = 1
            is(10, 8) = 1
            is(11, 8) = 1
            is(12, 8) = 1
            is(7, 8) = 0
            """);
        s.says(4, "ROWS of a type (one for each type at most; its ITEMS are of that type).", """
            rows(3) = 9
            rows(8) = 10
            rows(3) = 9
            rows(8) = 10
            rows(9) = 11
            rows(9) = 11
            count(0) = 12
            about(9, 2) = 3
            about(10, 2) = 8
            about(11, 2) = 9
            row(9, 1) = 0
            row(10, 1) = 1
            row(11, 1) = 2
            item(0, 0, 3, 0) = 1
            item(0, 0, 2, 0) ! -12
            slot(0, 3, -5) = 1
            put(0, 0, 0) = 1
            put(1, 0, 0) ! -12
            slot(1, 8, 0) = 1
            put(1, 0, 1) = 1
            put(2, 0, 1) = 1
            slot(1, 8, 1) = 1
            put(2, 0, 1) ! -12
            """);
        s.says(2, "A CLASS but ROOT has a PARENT, a CLASS;", """
            about(8, 1) = -1
            type(8, 0, true) = 9
            type(9, 0, false) = 10
            face(0) = 11
            rows(9) = 12
            about(9, 1) = 8
            about(10, 1) = 9
            about(11, 1) = -1
            type(11, 0, false) ! -1
            type(12, 0, false) ! -1
            type(7, 0, false) ! -1
            """);
        String faces = Sentences.count(9, 13, "face(0) = #") + """
            type(8, 0, false) = 14
            """;
        s.says(5, "a CLASS (not ROOT), a FACE has up to 3 FACES, in order.", faces + """
            implement(14, 12) = 1
            implement(14, 9) = 2
            implement(14, 11) = 3
            implement(14, 10) ! -3
            about(14, 4) = 3
            about(14, 7) = 12
            about(14, 8) = 9
            about(14, 9) = 11
            """, faces + """
            implement(13, 10) = 1
            implement(13, 12) = 2
            implement(13, 9) = 3
            implement(13, 11) ! -3
            about(13, 4) = 3
            about(13, 7) = 10
            about(13, 8) = 12
            about(13, 9) = 9
            """, faces + """
            implement(8, 9) ! -1
            about(8, 4) = 0
            """);
    }

    private void packages() {
        s.says(6, "Each is in a PACKAGE 0 .. 3 (ROOT in 0).",
            """
            about(8, 3) = 0
            type(8, 0, false) = 9
            type(8, 1, true) = 10
            type(9, 2, false) = 11
            type(11, 3, true) = 12
            face(0) = 13
            face(1) = 14
            face(2) = 15
            face(3) = 16
            about(9, 3) = 0
            about(10, 3) = 1
            about(11, 3) = 2
            about(12, 3) = 3
            about(13, 3) = 0
            about(14, 3) = 1
            about(15, 3) = 2
            about(16, 3) = 3
            """
            + Sentences.each("type(8, #, false) ! -1", -1, 4, Integer.MIN_VALUE, Integer.MAX_VALUE)
            + Sentences.each("face(#) ! -1", -1, 4, Integer.MIN_VALUE, Integer.MAX_VALUE));
    }

    private void whatIsWhat() {
        s.says(8, "a IS b: they are one;", """
            type(8, 0, false) = 9
            type(8, 0, false) = 10
            face(0) = 11
            face(0) = 12
            rows(4) = 13
            rows(9) = 14
            is(8, 8) = 1
            is(9, 9) = 1
            is(11, 11) = 1
            is(13, 13) = 1
            is(14, 14) = 1
            is(9, 10) = 0
            is(10, 9) = 0
            is(11, 12) = 0
            is(12, 11) = 0
            is(13, 14) = 0
            is(14, 13) = 0
            """);
        s.says(8, "or b is ROOT and a a REFERENCE;", """
            type(8, 0, false) = 9
            face(0) = 10
            rows(4) = 11
            rows(10) = 12
            is(9, 8) = 1
            is(10, 8) = 1
            is(11, 8) = 1
            is(12, 8) = 1
            is(8, 9) = 0
            is(8, 10) = 0
            is(8, 11) = 0
            is(8, 12) = 0
            is(4, 8) = 0
            is(0, 8) = 0
            """);
        s.says(8, "or a's PARENT IS b, or one of its FACES IS b;", """
            face(0) = 9
            face(0) = 10
            face(0) = 11
            face(0) = 12
            type(8, 0, true) = 13
            type(13, 1, false) = 14
            type(14, 2, false) = 15
            type(13, 0, false) = 16
            implement(10, 9) = 1
            implement(13, 10) = 1
            implement(14, 11) = 1
            implement(15, 12) = 1
            is(14, 13) = 1
            is(15, 13) = 1
            is(15, 14) = 1
            is(13, 15) = 0
            is(14, 15) = 0
            is(15, 16) = 0
            is(16, 15) = 0
            is(10, 9) = 1
            is(9, 10) = 0
            is(13, 10) = 1
            is(13, 9) = 1
            is(15, 9) = 1
            is(15, 10) = 1
            is(15, 11) = 1
            is(15, 12) = 1
            is(14, 12) = 0
            is(16, 10) = 1
            is(16, 11) = 0
            is(9, 13) = 0
            """, """
            face(0) = 9
            face(0) = 10
            face(0) = 11
            type(8, 0, false) = 12
            is(12, 9) = 0
            implement(12, 9) = 1
            is(12, 9) = 1
            is(12, 10) = 0
            implement(12, 10) = 2
            is(12, 10) = 1
            implement(12, 11) = 3
            is(12, 11) = 1
            is(12, 9) = 1
            """, """
            face(0) = 9
            face(0) = 10
            type(8, 0, false) = 11
            type(11, 0, false) = 12
            implement(11, 10) = 1
            is(12, 9) = 0
            implement(10, 9) = 1                // a FACE of a FACE that came in between counts at once
            is(12, 9) = 1
            is(11, 9) = 1
            """);
        s.says(8, "or both are ROWS of REFERENCES, of which a's IS b's.", """
            face(0) = 9
            type(8, 0, false) = 10
            type(10, 0, false) = 11
            implement(11, 9) = 1
            rows(8) = 12
            rows(10) = 13
            rows(11) = 14
            rows(9) = 15
            rows(4) = 16
            rows(3) = 17
            rows(14) = 18
            rows(13) = 19
            rows(16) = 20
            rows(12) = 21
            is(14, 13) = 1
            is(13, 14) = 0
            is(14, 15) = 1
            is(13, 15) = 0
            is(15, 12) = 1
            is(13, 12) = 1
            is(12, 13) = 0
            is(17, 16) = 0                      // SHORT WIDENS to INT, but ROWS of them are ROWS of PRIMITIVES
            is(16, 17) = 0
            is(16, 12) = 0
            is(16, 8) = 1
            is(18, 19) = 1
            is(19, 18) = 0
            is(18, 21) = 1
            is(18, 12) = 1
            is(20, 12) = 1
            is(20, 21) = 0
            is(14, 10) = 0
            is(14, 9) = 0
            is(11, 14) = 0
            """, """
            face(0) = 9
            type(8, 0, false) = 10
            rows(10) = 11
            rows(9) = 12
            is(11, 12) = 0
            implement(10, 9) = 1
            is(11, 12) = 1                      // as what they are of IS now
            """);
    }

    private void ancestors() {
        String house = """
            face(0) = 9
            face(0) = 10
            face(0) = 11
            face(0) = 12
            implement(11, 10) = 1
            implement(11, 9) = 2
            implement(12, 9) = 1
            type(8, 0, false) = 13
            type(13, 0, false) = 14
            implement(13, 12) = 1
            implement(14, 11) = 1
            implement(14, 12) = 2
            """;
        s.says(7, "ANCESTORS of a REFERENCE: itself; then those of its PARENT (of ROWS: ROOT), then those of its FACES,"
            + " in order; each once, as it is met first;", house + """
            about(13, 5) = 4
            ancestor(13, 0) = 13
            ancestor(13, 1) = 8
            ancestor(13, 2) = 12
            ancestor(13, 3) = 9
            about(14, 5) = 7
            ancestor(14, 0) = 14
            ancestor(14, 1) = 13
            ancestor(14, 2) = 8
            ancestor(14, 3) = 12
            ancestor(14, 4) = 9
            ancestor(14, 5) = 11
            ancestor(14, 6) = 10
            """, house + """
            rows(14) = 15
            rows(4) = 16
            about(15, 5) = 2
            ancestor(15, 0) = 15
            ancestor(15, 1) = 8
            about(16, 5) = 2
            ancestor(16, 1) = 8
            about(8, 5) = 1
            ancestor(8, 0) = 8
            """);
        s.says(7, "each once, as it is met first;", """
            face(0) = 9
            face(0) = 10
            face(0) = 11
            implement(10, 9) = 1
            implement(11, 9) = 1
            type(8, 0, false) = 12
            implement(12, 11) = 1
            implement(12, 10) = 2
            implement(12, 9) = 3
            about(12, 5) = 5
            ancestor(12, 0) = 12
            ancestor(12, 1) = 8
            ancestor(12, 2) = 11
            ancestor(12, 3) = 9
            ancestor(12, 4) = 10
            ancestor(12, 5) ! -1
            """, """
            face(0) = 9
            type(8, 0, false) = 10
            type(10, 0, false) = 11
            implement(10, 9) = 1
            implement(11, 9) = 1                // that of the PARENT once more
            about(11, 5) = 4
            ancestor(11, 0) = 11
            ancestor(11, 1) = 10
            ancestor(11, 2) = 8
            ancestor(11, 3) = 9
            """, manyWays());
        s.says(7, "but of a FACE: itself, those of its FACES without ROOT, ROOT.", house + """
            about(9, 5) = 2
            ancestor(9, 0) = 9
            ancestor(9, 1) = 8
            about(11, 5) = 4
            ancestor(11, 0) = 11
            ancestor(11, 1) = 10
            ancestor(11, 2) = 9
            ancestor(11, 3) = 8
            ancestor(11, 4) ! -1
            face(0) = 15
            implement(15, 12) = 1
            implement(15, 11) = 2
            about(15, 5) = 6
            ancestor(15, 0) = 15
            ancestor(15, 1) = 12
            ancestor(15, 2) = 9
            ancestor(15, 3) = 11
            ancestor(15, 4) = 10
            ancestor(15, 5) = 8
            """);
    }

    /** All 51 that can come, each a FACE with the three ahead of it: far more ways than could be walked. */
    private static String manyWays() {
        StringBuilder run = new StringBuilder();
        for (int f = 9; f <= 59; f++) {
            run.append("face(0) = ").append(f).append('\n');
            for (int up = 1; up <= 3 && f - up >= 9; up++) {
                run.append("implement(").append(f).append(", ").append(f - up).append(") = ").append(up).append('\n');
            }
        }
        return run + "about(59, 5) = 52\n" + "ancestor(59, 50) = 9\nancestor(59, 51) = 8\nancestor(59, 52) ! -1\n";
    }

    private void widening() {
        String[] wide = {"10000000", "01001111", "00111111", "00011111", "00001111", "00000111", "00000011", "00000001"};
        StringBuilder run = new StringBuilder();
        for (int a = 0; a < 8; a++) {
            for (int b = 0; b < 8; b++) {
                run.append("is(").append(a).append(", ").append(b).append(") = ").append(wide[a].charAt(b)).append('\n');
            }
        }
        s.says(8, "WIDENS, of PRIMITIVES: each to itself; BYTE to SHORT; CHAR, SHORT to INT; INT to LONG; LONG to FLOAT;"
            + " FLOAT to DOUBLE; and so on from there.", run.toString());
        s.says(8, "BYTE to SHORT; CHAR, SHORT to INT;", """
            is(2, 3) = 1
            is(2, 1) = 0
            is(3, 1) = 0
            is(1, 3) = 0
            is(1, 2) = 0
            is(1, 4) = 1
            is(3, 4) = 1
            is(0, 4) = 0
            is(4, 0) = 0
            """);
    }

    private void names() {
        StringBuilder letters = new StringBuilder();
        for (int t = 0; t < 8; t++) {
            letters.append("letter(").append(t).append(", -1) = 1\n");
            letters.append("letter(").append(t).append(", 0) = ").append((int) "ZCBSIJFD".charAt(t)).append('\n');
        }
        s.says(10, "THE NAME of a type: Z C B S I J F D of 0 to 7;", letters.toString());
        s.says(10, "[ and that of the ITEMS' type, of ROWS;", """
            rows(5) = 9
            rows(9) = 10
            rows(8) = 11
            """ + name(9, "[J") + name(10, "[[J") + name(11, "[L8;"),
            rowsOfRows() + "letter(59, -1) = 52\nletter(59, 0) = 91\nletter(59, 50) = 91\nletter(59, 51) = 90\n"
            + "letter(59, 52) ! -1\n");
        s.says(10, "else L, its number, ; (as L8;).", "face(0) = 9\ntype(8, 0, false) = 10\n"
            + Sentences.count(11, 58, "type(8, 0, true) = #") + "rows(10) = 59\n" + name(8, "L8;") + name(9, "L9;")
            + name(10, "L10;") + name(37, "L37;") + name(58, "L58;") + name(59, "[L10;"));
    }

    private static String rowsOfRows() {
        StringBuilder run = new StringBuilder("rows(0) = 9\n");
        for (int t = 10; t <= 59; t++) {
            run.append("rows(").append(t - 1).append(") = ").append(t).append('\n');
        }
        return run.toString();
    }

    private static String name(int type, String name) {
        StringBuilder run = new StringBuilder("letter(" + type + ", -1) = " + name.length() + "\n");
        for (int i = 0; i < name.length(); i++) {
            run.append("letter(").append(type).append(", ").append(i).append(") = ").append((int) name.charAt(i)).append('\n');
        }
        return run.append("letter(").append(type).append(", ").append(name.length()).append(") ! -1\n").toString();
    }

    private void type() {
        s.says(2, "A CLASS: its number.", """
            type(8, 0, false) = 9
            type(9, 3, true) = 10
            type(10, 1, false) = 11
            about(9, 0) = 1
            about(10, 0) = 2
            about(11, 0) = 1
            about(10, 1) = 9
            about(11, 1) = 10
            about(9, 3) = 0
            about(10, 3) = 3
            about(11, 3) = 1
            count(0) = 12
            """);
        s.says(2, "BAD: parent is no CLASS, package. FULL.", """
            face(0) = 9
            rows(8) = 10
            """ + Sentences.each("type(#, 0, false) ! -1", 0, 7, 9, 10, 11, -1, 60, Integer.MIN_VALUE, Integer.MAX_VALUE)
            + Sentences.each("type(8, #, true) ! -1", -1, 4, Integer.MIN_VALUE, Integer.MAX_VALUE) + "type(7, 4, true) ! -1",
            Sentences.count(9, 59, "face(0) = #") + """
            type(8, 0, false) ! -3
            type(8, 3, true) ! -3
            type(9, 0, false) ! -1              // BAD is ahead of FULL
            type(60, 0, false) ! -1
            type(8, 4, false) ! -1
            type(8, -1, false) ! -1
            """);
    }

    private void face() {
        s.says(3, "A FACE. BAD; FULL.", """
            face(2) = 9
            face(0) = 10
            about(9, 0) = 3
            about(9, 1) = -1
            about(9, 2) = -1
            about(9, 3) = 2
            about(9, 4) = 0
            about(9, 5) = 2
            face(-1) ! -1
            face(4) ! -1
            face(MIN) ! -1
            face(MAX) ! -1
            count(0) = 11
            """, Sentences.count(9, 59, "type(8, 0, false) = #") + """
            face(0) ! -3
            face(3) ! -3
            face(4) ! -1                        // BAD is ahead of FULL
            face(-1) ! -1
            """);
    }

    private void rows() {
        s.says(4, "ROWS of a type (those that are there; in its PACKAGE, of PRIMITIVES 0): the number.", """
            type(8, 3, false) = 9
            face(2) = 10
            rows(9) = 11
            rows(10) = 12
            rows(11) = 13
            rows(0) = 14
            rows(7) = 15
            rows(8) = 16
            rows(9) = 11
            rows(13) = 17
            rows(0) = 14
            count(0) = 18
            about(11, 0) = 4
            about(11, 3) = 3
            about(12, 3) = 2
            about(13, 3) = 3
            about(14, 3) = 0
            about(15, 3) = 0
            about(16, 3) = 0
            about(17, 3) = 3
            """);
        s.says(4, "the number. BAD; FULL.", "rows(4) = 9\n"
            + Sentences.each("rows(#) ! -1", -1, 10, 59, 60, Integer.MIN_VALUE, Integer.MAX_VALUE),
            "rows(4) = 9\n" + Sentences.count(10, 59, "face(0) = #") + """
            rows(5) ! -3
            rows(9) ! -3
            rows(5) ! -3                        // it did not come after all
            rows(4) = 9                         // that is there, so it needs no room
            rows(60) ! -1                       // BAD is ahead of FULL
            rows(-1) ! -1
            """);
    }

    private void implement() {
        s.says(5, "One more of the FACES of a CLASS, FACE: how many.", """
            face(0) = 9
            face(1) = 10
            face(2) = 11
            face(3) = 12
            type(8, 0, true) = 13
            type(13, 0, false) = 14
            implement(13, 12) = 1
            implement(13, 10) = 2
            implement(13, 9) = 3
            implement(14, 12) = 1               // that its PARENT has is not among its own
            implement(12, 11) = 1
            implement(12, 10) = 2
            about(13, 4) = 3
            about(14, 4) = 1
            about(12, 4) = 2
            about(11, 4) = 0
            about(12, 7) = 11
            about(12, 8) = 10
            about(12, 9) = -1
            """);
        s.says(5, "FULL: 3.", Sentences.count(9, 12, "face(0) = #") + """
            type(8, 0, false) = 13
            implement(13, 9) = 1
            implement(13, 10) = 2
            implement(13, 11) = 3
            implement(13, 12) ! -3
            about(13, 4) = 3
            is(13, 12) = 0
            """);
    }

    private void implementRefused() {
        String house = """
            face(0) = 9
            face(0) = 10
            type(8, 0, false) = 11
            rows(11) = 12
            face(0) = 13
            rows(4) = 14
            """;
        s.says(5, "BAD: also of ROOT, ROWS; a FACE that did not come ahead of it.", house + """
            implement(8, 9) ! -1
            implement(12, 9) ! -1
            implement(14, 9) ! -1
            implement(11, 13) ! -1
            implement(9, 10) ! -1
            implement(10, 10) ! -1
            implement(9, 13) ! -1
            """ + Sentences.each("implement(#, 9) ! -1", 0, 7, -1, 15, 60, Integer.MIN_VALUE, Integer.MAX_VALUE)
            + Sentences.each("implement(13, #) ! -1", 0, 7, 8, 11, 12, 13, 14, 15, -1, Integer.MIN_VALUE, Integer.MAX_VALUE)
            + "implement(10, 9) = 1\nimplement(13, 10) = 1\n");
        s.says(5, "NO: it is among them, or there is any THING.", house + """
            implement(11, 9) = 1
            implement(11, 9) ! -2
            implement(11, 10) = 2
            implement(11, 10) ! -2
            implement(11, 9) ! -2
            about(11, 4) = 2
            """, house + """
            row(14, 0) = 0                      // ROWS, empty ones too, are a THING
            implement(11, 9) ! -2
            implement(13, 9) ! -2
            """, house + """
            object(8) = 0
            implement(11, 9) ! -2
            implement(10, 9) ! -2
            type(8, 0, false) = 15
            implement(15, 9) ! -2               // one that came later, too
            """);
        s.says(5, "of several the first;", house + """
            face(0) = 15
            type(8, 0, false) = 16
            face(0) = 17
            implement(16, 9) = 1
            implement(16, 10) = 2
            implement(16, 13) = 3
            implement(16, 9) ! -2               // NO is ahead of FULL
            implement(16, 13) ! -2
            implement(16, 15) ! -3
            implement(16, 17) ! -1              // BAD is ahead of FULL
            implement(16, 8) ! -1
            object(8) = 0
            implement(16, 15) ! -2              // NO by a THING is ahead of FULL
            implement(16, 17) ! -1              // BAD is ahead of NO
            implement(8, 9) ! -1
            implement(12, 9) ! -1
            """);
    }

    private void about() {
        s.says(6, "Of a type: 0 what it is (0 PRIMITIVE, 1 CLASS, 2 ABSTRACT, 3 FACE, 4 ROWS),", """
            type(8, 0, false) = 9
            type(8, 0, true) = 10
            face(0) = 11
            rows(10) = 12
            rows(0) = 13
            about(0, 0) = 0
            about(7, 0) = 0
            about(8, 0) = 1
            about(9, 0) = 1
            about(10, 0) = 2
            about(11, 0) = 3
            about(12, 0) = 4
            about(13, 0) = 4
            """);
        s.says(6, "1 PARENT (ROWS: ROOT; none: NONE),", """
            type(8, 0, false) = 9
            type(9, 0, false) = 10
            rows(10) = 11
            rows(4) = 12
            face(0) = 13
            rows(13) = 14
            about(0, 1) = -1
            about(7, 1) = -1
            about(8, 1) = -1
            about(9, 1) = 8
            about(10, 1) = 9
            about(11, 1) = 8
            about(12, 1) = 8
            about(13, 1) = -1
            about(14, 1) = 8
            """);
        s.says(6, "2 what ROWS are of (NONE),", """
            type(8, 0, false) = 9
            rows(9) = 10
            rows(0) = 11
            rows(10) = 12
            face(0) = 13
            about(10, 2) = 9
            about(11, 2) = 0
            about(12, 2) = 10
            about(0, 2) = -1
            about(8, 2) = -1
            about(9, 2) = -1
            about(13, 2) = -1
            """);
        s.says(6, "3 PACKAGE (PRIMITIVES 0),", Sentences.count(0, 8, "about(#, 3) = 0") + """
            type(8, 3, false) = 9
            face(2) = 10
            rows(9) = 11
            about(9, 3) = 3
            about(10, 3) = 2
            about(11, 3) = 3
            """);
        s.says(6, "4 how many FACES,", """
            face(0) = 9
            face(0) = 10
            type(8, 0, false) = 11
            type(11, 0, false) = 12
            rows(11) = 13
            about(11, 4) = 0
            implement(11, 10) = 1
            about(11, 4) = 1
            implement(11, 9) = 2
            about(11, 4) = 2
            about(12, 4) = 0                    // its own, not its PARENT's
            about(13, 4) = 0
            about(9, 4) = 0
            about(8, 4) = 0
            about(4, 4) = 0
            """);
        s.says(6, "5 how many ANCESTORS (PRIMITIVES 0),", Sentences.count(0, 7, "about(#, 5) = 0") + """
            face(0) = 9
            type(8, 0, false) = 10
            rows(10) = 11
            implement(10, 9) = 1
            about(8, 5) = 1
            about(9, 5) = 2
            about(10, 5) = 3
            about(11, 5) = 2
            """);
        s.says(6, "6 CLOSED (1, 0),", """
            face(0) = 9
            face(0) = 10
            type(8, 0, true) = 11
            type(11, 0, false) = 12
            type(12, 0, false) = 13
            rows(12) = 14
            implement(11, 9) = 1
            row(14, 3) = 0
            about(8, 6) = 0
            about(12, 6) = 0
            about(14, 6) = 0
            object(12) = 1
            about(12, 6) = 1
            about(11, 6) = 1
            about(9, 6) = 1
            about(8, 6) = 1
            about(10, 6) = 0
            about(13, 6) = 0
            about(14, 6) = 0
            about(4, 6) = 0
            """);
        s.says(6, "7 + i FACE i (NONE: none such; to 9).", Sentences.count(9, 11, "face(0) = #") + """
            type(8, 0, false) = 12
            rows(12) = 13
            about(12, 7) = -1
            about(12, 8) = -1
            about(12, 9) = -1
            implement(12, 11) = 1
            about(12, 7) = 11
            about(12, 8) = -1
            implement(12, 9) = 2
            about(12, 8) = 9
            about(12, 9) = -1
            implement(12, 10) = 3
            about(12, 7) = 11
            about(12, 8) = 9
            about(12, 9) = 10
            about(12, 10) ! -1
            about(9, 7) = -1
            about(13, 7) = -1
            about(4, 7) = -1
            """);
        s.says(6, "BAD: another what, too.",
            Sentences.each("about(8, #) ! -1", -1, 10, 11, Integer.MIN_VALUE, Integer.MAX_VALUE)
            + Sentences.each("about(#, 0) ! -1", -1, 9, 60, Integer.MIN_VALUE, Integer.MAX_VALUE)
            + "about(-1, 3) ! -1\nabout(9, 6) ! -1\nabout(9, 10) ! -1\n");
    }

    private void ancestor() {
        s.says(7, "ANCESTOR i. BAD: none such.", """
            face(0) = 9
            type(8, 0, false) = 10
            implement(10, 9) = 1
            ancestor(10, 0) = 10
            ancestor(10, 1) = 8
            ancestor(10, 2) = 9
            ancestor(10, 3) ! -1
            ancestor(10, -1) ! -1
            ancestor(10, MIN) ! -1
            ancestor(10, MAX) ! -1
            ancestor(8, 0) = 8
            ancestor(8, 1) ! -1
            ancestor(0, 0) ! -1                 // PRIMITIVES have none
            ancestor(7, 0) ! -1
            ancestor(11, 0) ! -1
            ancestor(-1, 0) ! -1
            ancestor(MAX, 0) ! -1
            """);
    }

    private void is() {
        s.says(8, "1: a IS b (REFERENCES), a WIDENS to b (PRIMITIVES); else 0. BAD.", """
            type(8, 0, false) = 9
            is(9, 8) = 1
            is(8, 9) = 0
            is(2, 4) = 1
            is(4, 2) = 0
            is(4, 8) = 0
            is(8, 4) = 0
            is(9, 0) = 0
            is(0, 9) = 0
            """ + Sentences.each("is(#, 8) ! -1", -1, 10, 60, Integer.MIN_VALUE, Integer.MAX_VALUE)
            + Sentences.each("is(8, #) ! -1", -1, 10, 60, Integer.MIN_VALUE, Integer.MAX_VALUE)
            + "is(10, 10) ! -1\nis(-1, -1) ! -1\nis(0, 10) ! -1\nis(10, 0) ! -1\n");
    }

    private void meet() {
        s.says(9, "The first ANCESTOR of a that b IS.", """
            face(0) = 9
            face(0) = 10
            implement(10, 9) = 1
            type(8, 0, false) = 11
            type(11, 0, false) = 12
            type(11, 0, false) = 13
            type(8, 0, false) = 14
            implement(12, 10) = 1
            implement(14, 9) = 1
            meet(12, 12) = 12
            meet(12, 13) = 11
            meet(13, 12) = 11
            meet(12, 11) = 11
            meet(11, 12) = 11
            meet(12, 14) = 8                    // ROOT comes ahead of the FACES of a CLASS
            meet(14, 12) = 8
            meet(10, 14) = 9                    // but after those of a FACE
            meet(10, 12) = 10
            meet(9, 12) = 9
            meet(12, 9) = 8
            meet(8, 9) = 8
            """, """
            type(8, 0, false) = 9
            type(9, 0, false) = 10
            rows(9) = 11
            rows(10) = 12
            meet(11, 12) = 11                   // ROWS of 10 are ROWS of 9
            meet(12, 11) = 8                    // but ROWS of 9 are no ANCESTOR of ROWS of 10
            meet(11, 9) = 8
            """);
        s.says(9, "BAD: not both REFERENCES.", "rows(4) = 9\nmeet(9, 8) = 8\n"
            + Sentences.each("meet(#, 8) ! -1", 0, 4, 7, -1, 10, 60, Integer.MIN_VALUE, Integer.MAX_VALUE)
            + Sentences.each("meet(8, #) ! -1", 0, 4, 7, -1, 10, 60, Integer.MIN_VALUE, Integer.MAX_VALUE)
            + "meet(4, 4) ! -1\nmeet(3, 4) ! -1\n");
    }

    private void letter() {
        s.says(10, "Byte i of THE NAME (i = -1: how many). BAD: none such.", """
            type(8, 0, false) = 9
            type(8, 0, false) = 10
            rows(10) = 11
            """ + name(4, "I") + name(8, "L8;") + name(9, "L9;") + name(10, "L10;") + name(11, "[L10;")
            + Sentences.each("letter(11, #) ! -1", -2, 5, 6, Integer.MIN_VALUE, Integer.MAX_VALUE)
            + Sentences.each("letter(#, -1) ! -1", -1, 12, 60, Integer.MIN_VALUE, Integer.MAX_VALUE)
            + Sentences.each("letter(#, 0) ! -1", -1, 12, 60, Integer.MIN_VALUE, Integer.MAX_VALUE));
    }
}
