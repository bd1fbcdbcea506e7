/** What the document says of THINGS and SLOTS: promises 23 to 34, and their terms. */
final class ThingSentences {
    private static final int MIN = Integer.MIN_VALUE;
    private static final int MAX = Integer.MAX_VALUE;
    private static final long FLOAT_INFINITY = 0x7f800000L;
    private static final long DOUBLE_INFINITY = 0x7ff0000000000000L;
    private final Sentences s;

    private ThingSentences(Sentences s) {
        this.s = s;
    }

    static void tell(Sentences s) {
        ThingSentences t = new ThingSentences(s);
        t.howMany();
        t.objectsHold();
        t.rowsHold();
        t.closed();
        t.slots();
        t.failures();
        t.wholes();
        t.fit();
        t.goesInto();
        t.object();
        t.row();
        t.thing();
        t.slot();
        t.get();
        t.getFails();
        t.set();
        t.setFails();
        t.item();
        t.put();
        t.store();
        t.copy();
        t.copyFails();
        t.refusedAheadOfFailures();
    }

    private static String slotIs(int slot, int kind, long bits) {
        return "kind(" + slot + ") = " + kind + "\nbits(" + slot + ") = " + bits + "\n";
    }

    private void howMany() {
        String house = "type(8, 0, true) = 9\nrows(4) = 10\n";
        StringBuilder things = new StringBuilder(house);
        for (int t = 0; t < 79; t++) {
            things.append(t % 2 == 0 ? "object(8) = " : "row(10, " + t % 21 + ") = ").append(t).append('\n');
        }
        String refused = """
            object(8) ! -3
            row(10, 0) ! -3
            row(10, 20) ! -3
            count(2) = 80
            thing(79, 0) = 8
            thing(80, 0) ! -2
            """;
        s.says(23, "3 THINGS, 0, 1, .. as they come, 80 at most:", house + """
            object(8) = 0
            row(10, 3) = 1
            object(9) ! -17
            row(10, -1) ! -15
            object(10) ! -1
            row(10, 21) ! -1
            object(8) = 2
            row(10, 3) = 3
            count(2) = 4
            """, things + "count(2) = 79\nobject(8) = 79\n" + refused);
        s.says(24, "3 THINGS, 0, 1, .. as they come, 80 at most:",
            things + "row(10, 20) = 79\n" + refused.replace("thing(79, 0) = 8", "thing(79, 0) = 10"));
        s.says(23, "OBJECTS of a CLASS that is not ABSTRACT,", """
            type(8, 0, true) = 9
            type(9, 0, false) = 10
            object(9) ! -17
            object(10) = 0
            object(8) = 1
            """);
        s.says(25, "A THING is of its type.", """
            type(8, 0, false) = 9
            type(9, 0, false) = 10
            rows(9) = 11
            object(10) = 0
            object(9) = 1
            row(11, 1) = 2
            thing(0, 0) = 10
            thing(1, 0) = 9
            thing(2, 0) = 11
            """);
    }

    private void objectsHold() {
        StringBuilder first = new StringBuilder("type(8, 0, false) = 9\ntype(9, 0, false) = 10\nrows(4) = 11\n");
        StringBuilder read = new StringBuilder();
        int[] of = {0, 1, 2, 3, 4, 5, 6, 7, 8, 9, 11};
        for (int i = 0; i < of.length; i++) {
            int as = Math.min(8, of[i]);
            first.append("field(" + (9 + i % 2) + ", " + i + ", 1, " + of[i] + ") = " + i + "\n");
            read.append("slot(0, 2, 99) = 1\nget(" + i + ", 0, " + as + ", 0) = 1\n" + slotIs(0, as, as == 8 ? -1 : 0));
        }
        s.says(23, "with a VALUE for each FIELD that is not STATIC of it, its PARENT, and so on (0, 0.0, NOTHING at first);",
            first + "object(10) = 0\n" + read, """
            type(8, 0, false) = 9
            field(9, 0, 1, 9) = 0
            field(9, 1, 1, 7) = 1
            object(9) = 0
            get(0, 0, 8, 1) = 1
            bits(1) = -1
            get(1, 0, 7, 1) = 1
            bits(1) = 0
            """, """
            type(8, 0, false) = 9
            type(9, 0, false) = 10
            type(10, 0, false) = 11
            field(9, 0, 1, 4) = 0
            field(10, 0, 1, 4) = 1
            field(11, 0, 1, 4) = 2
            field(9, 1, 5, 4) = 3
            object(11) = 0
            object(11) = 1
            object(9) = 2
            slot(0, 4, 10) = 1
            set(0, 0, 0) = 1
            slot(0, 4, 11) = 1
            set(1, 0, 0) = 1
            slot(0, 4, 12) = 1
            set(2, 0, 0) = 1
            slot(0, 4, 13) = 1
            set(3, 0, 0) = 1
            get(0, 0, 4, 1) = 1
            bits(1) = 10                        // each FIELD of one name has its own
            get(1, 0, 4, 1) = 1
            bits(1) = 11
            get(2, 0, 4, 1) = 1
            bits(1) = 12
            get(0, 1, 4, 1) = 1
            bits(1) = 0                         // and each OBJECT
            get(0, 2, 4, 1) = 1
            bits(1) = 0
            get(3, 2, 4, 1) = 1
            bits(1) = 13                        // but not of a STATIC one
            get(1, 2, 4, 1) ! -12
            """);
    }

    private void rowsHold() {
        StringBuilder first = new StringBuilder("type(8, 0, false) = 9\n");
        int[] of = {0, 1, 2, 3, 4, 5, 6, 7, 8, 9};
        for (int i = 0; i < of.length; i++) {
            int as = Math.min(8, of[i]);
            first.append("rows(" + of[i] + ") = " + (10 + i) + "\nrow(" + (10 + i) + ", 20) = " + i + "\nitem(" + i + ", 0, " + as
                + ", 0) = 1\n" + slotIs(0, as, as == 8 ? -1 : 0) + "item(" + i + ", 19, " + as + ", 0) = 1\n"
                + slotIs(0, as, as == 8 ? -1 : 0) + "item(" + i + ", 20, " + as + ", 0) ! -13\n");
        }
        s.says(24, "and of ROWS, with 0 to 20 ITEMS (likewise).", first.toString(), """
            rows(4) = 9
            row(9, 0) = 0
            row(9, 1) = 1
            row(9, 20) = 2
            row(9, 21) ! -1
            row(9, -1) ! -15
            thing(0, 1) = 0
            thing(1, 1) = 1
            thing(2, 1) = 20
            item(0, 0, 4, 0) ! -13
            item(1, 0, 4, 0) = 1
            item(1, 1, 4, 0) ! -13
            item(2, 19, 4, 0) = 1
            slot(0, 4, 5) = 1
            put(2, 19, 0) = 1
            item(2, 18, 4, 1) = 1
            bits(1) = 0
            row(9, 20) = 3
            item(3, 19, 4, 1) = 1               // each has its own
            bits(1) = 0
            """);
    }

    private void closed() {
        String house = """
            face(0) = 9
            type(8, 0, true) = 10
            type(10, 0, false) = 11
            type(11, 0, false) = 12
            type(10, 0, false) = 13
            implement(10, 9) = 1
            rows(11) = 14
            rows(4) = 15
            """;
        s.says(11, "A type of which, or of one that IS it, there is an OBJECT is CLOSED: it gets no FIELD more that is not"
            + " STATIC.", house + """
            object(11) = 0
            field(11, 0, 1, 4) ! -2
            field(10, 0, 1, 4) ! -2
            field(11, 0, 5, 4) = 0
            field(10, 0, 4, 4) = 1
            field(9, 0, 13, 4) = 2
            field(12, 0, 1, 4) = 3              // a child of it
            field(13, 0, 1, 4) = 4              // another child of its PARENT
            method(11, 0, 1, 4, 0, 0, 0, 0) = 5 // METHODS may come
            about(11, 6) = 1
            about(10, 6) = 1
            about(9, 6) = 1
            about(8, 6) = 1
            about(12, 6) = 0
            about(13, 6) = 0
            """, house + """
            row(14, 20) = 0                     // ROWS are no OBJECT
            row(15, 0) = 1
            about(11, 6) = 0
            about(8, 6) = 0
            about(14, 6) = 0
            field(11, 0, 1, 4) = 0
            object(8) = 2
            about(8, 6) = 1
            about(11, 6) = 0
            field(11, 1, 1, 4) = 1
            object(10) ! -17                    // nor is one that did not come
            field(10, 1, 1, 4) = 2
            """);
    }

    private void slots() {
        s.says(26, "SLOTS 0 .. 7 hold a VALUE each, with the PRIMITIVE of which it is, or 8 (a REFERENCE); INT 0 at first.",
            Sentences.count(0, 7, "kind(#) = 4\nbits(#) = 0") + "kind(8) ! -1\nkind(-1) ! -1\n",
            Sentences.count(0, 7, "slot(#, #, 1) = 1") + Sentences.count(0, 7, "kind(#) = #\nbits(#) = 1")
            + "object(8) = 0\nslot(3, 8, 0) = 1\nslot(8, 4, 1) ! -1\nslot(-1, 4, 1) ! -1\n" + slotIs(3, 8, 0) + slotIs(2, 2, 1)
            + slotIs(4, 4, 1));
    }

    private void failures() {
        s.says(24, "FAILURES: 1 NULL, 2 ARGUMENT, 3 INDEX, 4 STORE, 5 SIZE, 6 ACCESS, 7 ABSTRACT, 8 CAST, 9 CAUSE, 10 DEEP."
            + " A call that FAILS answers -10 less the FAILURE and changes nothing (but as told).", """
            type(8, 1, true) = 9
            type(9, 1, false) = 10
            rows(4) = 11
            rows(9) = 12
            field(9, 0, 1, 4) = 0
            field(9, 1, 2, 4) = 1
            method(10, 0, 5, 4, 0, 0, 0, 0) = 2
            method(10, 1, 5, 4, 0, 0, 0, 0) = 3
            body(2, 4, 1, 0) = 1
            body(3, 5, 3, 0) = 1
            object(10) = 0
            object(8) = 1
            row(11, 2) = 2
            row(12, 2) = 3
            slot(0, 8, 1) = 1
            slot(1, 4, 7) = 1
            get(0, -1, 4, 5) ! -11              // NULL
            get(0, 1, 4, 5) ! -12               // ARGUMENT
            item(2, 2, 4, 5) ! -13              // INDEX
            store(3, 0, 0) ! -14                // STORE
            row(11, -1) ! -15                   // SIZE
            get(1, 0, 4, 5) ! -16               // ACCESS
            object(9) ! -17                     // ABSTRACT
            store(2, 0, 0) ! -18                // CAST
            call(2, -1, 0, 5) = -19             // CAUSE
            cause(0) = 1
            call(3, -1, 0, 5) = -19
            cause(0) = 10                       // DEEP
            kind(5) = 4
            bits(5) = 0
            """);
    }

    private void wholes() {
        long[] longs = {0, 1, -1, 16777216, 16777217, -16777217, 16777218, 16777219, -16777219, 33554433, 33554434, 33554435,
            33554438, MAX, MIN, 9007199254740991L, 9007199254740992L, 9007199254740993L, -9007199254740993L, 9007199254740995L,
            (1L << 60) + (1L << 36), (1L << 60) + (1L << 36) + 1, (1L << 60) + 3 * (1L << 36), (1L << 60) + 3 * (1L << 36) - 1,
            Long.MAX_VALUE, Long.MIN_VALUE, Long.MIN_VALUE + 1, Long.MAX_VALUE - 512, Long.MAX_VALUE - 511, 4503599627370497L};
        StringBuilder run = new StringBuilder("rows(6) = 9\nrows(7) = 10\nrow(9, 1) = 0\nrow(10, 1) = 1\n");
        for (long whole : longs) {
            run.append("slot(0, 5, " + whole + ") = 1\nput(0, 0, 0) = 1\nitem(0, 0, 6, 1) = 1\n"
                + slotIs(1, 6, Sentences.f((float) whole)) + "put(1, 0, 0) = 1\nitem(1, 0, 7, 1) = 1\n"
                + slotIs(1, 7, Sentences.d((double) whole)));
        }
        int[] ints = {16777217, 16777219, -16777217, -16777219, MAX, MIN, MAX - 64, MAX - 63, MAX - 65, 2000000001};
        StringBuilder runOfInts = new StringBuilder("rows(6) = 9\nrows(7) = 10\nrow(9, 1) = 0\nrow(10, 1) = 1\n");
        for (int whole : ints) {
            runOfInts.append("slot(0, 4, " + whole + ") = 1\nput(0, 0, 0) = 1\nitem(0, 0, 6, 1) = 1\n"
                + slotIs(1, 6, Sentences.f((float) whole)) + "put(1, 0, 0) = 1\nitem(1, 0, 7, 1) = 1\n"
                + slotIs(1, 7, Sentences.d((double) whole)));
        }
        s.says(32, "A WHOLE becomes the nearest FLOAT, DOUBLE (of two the even one), at once.", run.toString(), runOfInts.toString());
        s.says(29, "A WHOLE becomes the nearest FLOAT, DOUBLE (of two the even one), at once.", """
            type(8, 0, false) = 9
            field(9, 0, 5, 5) = 0
            slot(0, 5, 1152921573326323713) = 1
            set(0, -1, 0) = 1
            get(0, -1, 6, 1) = 1
            """ + "bits(1) = " + Sentences.f((float) 1152921573326323713L) + "\nget(0, -1, 7, 1) = 1\nbits(1) = "
            + Sentences.d((double) 1152921573326323713L) + "\nslot(0, 5, 9007199254740993) = 1\nset(0, -1, 0) = 1\n"
            + "get(0, -1, 7, 1) = 1\nbits(1) = " + Sentences.d(9007199254740992.0) + "\n");
    }

    private void fit() {
        StringBuilder run = new StringBuilder("object(8) = 0\nrows(4) = 9\nrow(9, 0) = 1\n");
        long[][] fit = {{0, 0, 1}, {1, 0, 65535}, {2, -128, 127}, {3, -32768, 32767}, {4, MIN, MAX},
            {5, Long.MIN_VALUE, Long.MAX_VALUE}, {6, 0, FLOAT_INFINITY}, {6, MIN, (int) 0xff800000L}, {6, 1, 0x7f7fffffL},
            {7, 0, DOUBLE_INFINITY}, {7, Long.MIN_VALUE, DOUBLE_INFINITY | Long.MIN_VALUE}, {7, 1, DOUBLE_INFINITY - 1},
            {8, -1, 0}, {8, 1, -1}};
        for (long[] row : fit) {
            for (int i = 1; i <= 2; i++) {
                run.append("slot(2, " + row[0] + ", " + row[i] + ") = 1\n" + slotIs(2, (int) row[0], row[i]));
            }
        }
        s.says(26, "A VALUE is of a PRIMITIVE, by its BITS, a long: BOOLEAN 0, 1; CHAR 0 .. 65535; BYTE, SHORT, INT, LONG as they"
            + " are; FLOAT by its 32 bits as an INT, DOUBLE by its 64; or is a REFERENCE: a THING's number, or NOTHING (-1).",
            run.toString());
        s.says(26, "BOOLEAN 0, 1;", "slot(2, 0, 1) = 1\n" + Sentences.each("slot(2, 0, #) ! -1", -1, 2, 256, 1L << 32, Long.MIN_VALUE));
        s.says(26, "CHAR 0 .. 65535;", "slot(2, 1, 65535) = 1\nslot(2, 1, 0) = 1\n"
            + Sentences.each("slot(2, 1, #) ! -1", -1, 65536, MAX, 1L << 32, Long.MIN_VALUE));
        s.says(26, "BYTE, SHORT, INT, LONG as they are;",
            Sentences.each("slot(2, 2, #) ! -1", -129, 128, 255, 256, 1L << 32, Long.MIN_VALUE, Long.MAX_VALUE)
            + Sentences.each("slot(2, 3, #) ! -1", -32769, 32768, 65535, 65536, 1L << 32, Long.MIN_VALUE, Long.MAX_VALUE)
            + Sentences.each("slot(2, 4, #) ! -1", MIN - 1L, MAX + 1L, 1L << 32, Long.MIN_VALUE, Long.MAX_VALUE)
            + "slot(2, 5, LMIN) = 1\nbits(2) = LMIN\nslot(2, 5, LMAX) = 1\nbits(2) = LMAX\n");
        s.says(26, "FLOAT by its 32 bits as an INT, DOUBLE by its 64;",
            Sentences.each("slot(2, 6, #) ! -1", 0x80000000L, 0xff800000L, 0xbf800000L, MIN - 1L, 1L << 32, Sentences.d(1.0))
            + "slot(2, 6, " + Sentences.f(-1f) + ") = 1\n" + slotIs(2, 6, Sentences.f(-1f)) + "slot(2, 7, " + Sentences.d(-1.0)
            + ") = 1\n" + slotIs(2, 7, Sentences.d(-1.0)));
        s.says(26, "FIT are BITS that are such (of FLOAT, DOUBLE: not those of what is no number), THINGS that are there.",
            Sentences.each("slot(2, 6, #) ! -1", FLOAT_INFINITY + 1, 0x7fc00000L, MAX, (int) 0xff800001L, (int) 0xffc00000L, -1)
            + Sentences.each("slot(2, 7, #) ! -1", DOUBLE_INFINITY + 1, 0x7ff8000000000000L, Long.MAX_VALUE,
                (DOUBLE_INFINITY | Long.MIN_VALUE) + 1, 0xfff8000000000000L, -1)
            + "slot(2, 6, " + FLOAT_INFINITY + ") = 1\nslot(2, 7, " + DOUBLE_INFINITY + ") = 1\n",
            "slot(2, 8, -1) = 1\nslot(2, 8, 0) ! -1\nobject(8) = 0\nslot(2, 8, 0) = 1\nslot(2, 8, 1) ! -1\n"
            + "rows(4) = 9\nrow(9, 0) = 1\nslot(2, 8, 1) = 1\n"
            + Sentences.each("slot(2, 8, #) ! -1", -2, 2, 80, 1L << 32, (1L << 32) + 1, Long.MIN_VALUE, Long.MAX_VALUE));
    }

    private void goesInto() {
        StringBuilder run = new StringBuilder("type(8, 0, false) = 9\n" + Sentences.count(0, 7, "field(9, #, 5, #) = #"));
        String[] wide = {"10000000", "01001111", "00111111", "00011111", "00001111", "00000111", "00000011", "00000001"};
        long[] three = {1, 3, 3, 3, 3, 3, Sentences.f(3f), Sentences.d(3.0)};
        for (int from = 0; from < 8; from++) {
            run.append("slot(0, " + from + ", " + three[from] + ") = 1\n");
            for (int to = 0; to < 8; to++) {
                if (wide[from].charAt(to) == '1') {
                    run.append("set(" + to + ", -1, 0) = 1\nget(" + to + ", -1, " + to + ", 1) = 1\n" + slotIs(1, to, three[to]));
                } else {
                    run.append("set(" + to + ", -1, 0) ! -12\n");
                }
            }
        }
        float[] floats = {0f, -0f, 1f, 0.1f, -0.1f, Float.MIN_VALUE, -Float.MIN_VALUE, Float.MIN_NORMAL, 0x0.fffffep-126f,
            Float.MAX_VALUE, Float.POSITIVE_INFINITY, Float.NEGATIVE_INFINITY};
        StringBuilder toDouble = new StringBuilder("type(8, 0, false) = 9\nfield(9, 0, 5, 7) = 0\n");
        for (float value : floats) {
            toDouble.append("slot(0, 6, " + Sentences.f(value) + ") = 1\nset(0, -1, 0) = 1\nget(0, -1, 7, 1) = 1\n"
                + slotIs(1, 7, Sentences.d(value)));
        }
        s.says(30, "A VALUE GOES INTO a type: a PRIMITIVE that WIDENS to it (it is widened);", run.toString(), toDouble.toString());
        s.says(30, "a REFERENCE into a type that it IS, NOTHING into each REFERENCE.", """
            face(0) = 9
            type(8, 0, false) = 10
            type(10, 0, false) = 11
            implement(11, 9) = 1
            rows(11) = 12
            rows(10) = 13
            field(10, 0, 5, 10) = 0
            field(10, 1, 5, 9) = 1
            field(10, 2, 5, 8) = 2
            field(10, 3, 5, 13) = 3
            field(10, 4, 5, 4) = 4
            object(10) = 0
            object(11) = 1
            row(12, 1) = 2
            slot(0, 8, 0) = 1
            slot(1, 8, 1) = 1
            slot(2, 8, 2) = 1
            slot(3, 8, -1) = 1
            slot(4, 4, 0) = 1
            set(0, -1, 0) = 1
            set(0, -1, 1) = 1
            set(0, -1, 2) ! -12
            set(1, -1, 0) ! -12
            set(1, -1, 1) = 1
            set(2, -1, 0) = 1
            set(2, -1, 2) = 1
            set(3, -1, 2) = 1                   // ROWS of 11 are ROWS of 10
            set(3, -1, 0) ! -12
            set(2, -1, 4) ! -12
            set(4, -1, 0) ! -12
            set(4, -1, 3) ! -12                 // NOTHING goes into no PRIMITIVE
            get(3, -1, 8, 5) = 1
            bits(5) = 2
            """ + Sentences.count(0, 3, "set(#, -1, 3) = 1\nget(#, -1, 8, 5) = 1\nbits(5) = -1"));
    }

    private void object() {
        s.says(23, "An OBJECT: its number. BAD: no CLASS. FULL. FAILS: ABSTRACT.", """
            face(0) = 9
            type(8, 0, true) = 10
            type(10, 0, false) = 11
            rows(11) = 12
            object(11) = 0
            object(8) = 1
            object(11) = 2
            thing(2, 0) = 11
            thing(2, 1) = -1
            object(10) ! -17
            """ + Sentences.each("object(#) ! -1", 0, 4, 7, 9, 12, 13, -1, MIN, MAX), "type(8, 0, true) = 9\nface(0) = 10\n"
            + Sentences.count(0, 79, "object(8) = #") + """
            object(8) ! -3
            object(9) ! -3                      // FULL is ahead of ABSTRACT
            object(10) ! -1                     // BAD is ahead of FULL
            object(11) ! -1
            """);
    }

    private void row() {
        s.says(24, "A THING of ROWS with n ITEMS. BAD: no ROWS; n is above 20. FULL. FAILS: SIZE.", """
            type(8, 0, false) = 9
            face(0) = 10
            rows(9) = 11
            rows(0) = 12
            row(11, 0) = 0
            row(12, 20) = 1
            row(11, 7) = 2
            thing(0, 1) = 0
            thing(1, 1) = 20
            thing(2, 1) = 7
            thing(2, 0) = 11
            """ + Sentences.each("row(#, 1) ! -1", 0, 4, 8, 9, 10, 13, -1, MIN, MAX)
            + Sentences.each("row(11, #) ! -1", 21, 22, MAX) + Sentences.each("row(11, #) ! -15", -1, -2, MIN)
            + "row(9, -1) ! -1\nrow(9, 21) ! -1\nrow(13, MIN) ! -1\n",
            "rows(0) = 9\n" + Sentences.count(0, 79, "row(9, 0) = #") + """
            row(9, 0) ! -3
            row(9, -1) ! -3                     // FULL is ahead of SIZE
            row(9, 21) ! -1                     // BAD is ahead of FULL
            row(8, 0) ! -1
            """);
    }

    private void thing() {
        s.says(25, "Of a THING (-1: 0 of each): what = 0 its type, 1 how many ITEMS (NONE: an OBJECT).", """
            rows(4) = 9
            thing(-1, 0) = 0
            thing(-1, 1) = 0
            object(8) = 0
            row(9, 0) = 1
            row(9, 5) = 2
            thing(0, 0) = 8
            thing(0, 1) = -1
            thing(1, 0) = 9
            thing(1, 1) = 0
            thing(2, 1) = 5
            thing(-1, 0) = 0
            thing(-1, 1) = 0
            """);
        s.says(25, "BAD: -2: no THING (but -1), another what.", "object(8) = 0\n"
            + Sentences.each("thing(#, 0) ! -2", -2, 1, 80, MIN, MAX) + Sentences.each("thing(#, 1) ! -2", -2, 1, 80, MIN, MAX)
            + Sentences.each("thing(0, #) ! -2", -1, 2, MIN, MAX) + Sentences.each("thing(-1, #) ! -2", -1, 2, MIN, MAX));
    }

    private void slot() {
        s.says(26, "A SLOT gets a VALUE of a PRIMITIVE, or 8: 1. BAD: also BITS that are not FIT.",
            "slot(3, 5, -9) = 1\n" + slotIs(3, 5, -9) + "slot(3, 8, -1) = 1\n" + slotIs(3, 8, -1)
            + Sentences.each("slot(#, 4, 1) ! -1", -1, 8, MIN, MAX) + Sentences.each("slot(3, #, 0) ! -1", -1, 9, MIN, MAX)
            + "slot(3, 0, 2) ! -1\nslot(3, 8, 0) ! -1\nslot(3, 2, 128) ! -1\nslot(8, 9, 0) ! -1\n" + slotIs(3, 8, -1));
        s.says(27, "Of a SLOT: its PRIMITIVE, or 8. BAD.", Sentences.count(0, 7, "slot(1, #, 0) = 1\nkind(1) = #")
            + "slot(1, 8, -1) = 1\nkind(1) = 8\nkind(0) = 4\n" + Sentences.each("kind(#) ! -1", -1, 8, MIN, MAX));
        s.says(28, "Its BITS; Long.MIN_VALUE: no such SLOT.", "slot(7, 5, LMAX) = 1\nbits(7) = LMAX\nslot(0, 2, -3) = 1\nbits(0) = -3\n"
            + "slot(0, 8, -1) = 1\nbits(0) = -1\n" + Sentences.each("bits(#) ! LMIN", -1, 8, MIN, MAX));
    }

    /** Of 9 an INT FIELD 0, a ROOT one 1, a STATIC LONG one 2, a PRIVATE one 3; a METHOD 4; 10 is its child. */
    private static final String FIELDS = """
        type(8, 1, false) = 9
        type(9, 1, false) = 10
        rows(9) = 11
        field(9, 0, 1, 4) = 0
        field(9, 1, 1, 8) = 1
        field(9, 2, 5, 5) = 2
        field(9, 3, 2, 4) = 3
        method(9, 0, 1, 4, 0, 0, 0, 0) = 4
        object(9) = 0
        object(10) = 1
        object(8) = 2
        row(11, 1) = 3
        """;

    private void get() {
        s.says(29, "A FIELD's VALUE, widened to a PRIMITIVE (as; a REFERENCE's with 8), comes into a SLOT: 1.", FIELDS + """
            slot(0, 4, -6) = 1
            set(0, 1, 0) = 1
            slot(0, 8, 2) = 1
            set(1, 1, 0) = 1
            slot(0, 4, 7) = 1
            set(2, -1, 0) = 1
            get(0, 1, 4, 7) = 1
            """ + slotIs(7, 4, -6) + "get(0, 1, 5, 7) = 1\n" + slotIs(7, 5, -6) + "get(0, 1, 6, 7) = 1\n"
            + slotIs(7, 6, Sentences.f(-6f)) + "get(0, 1, 7, 0) = 1\n" + slotIs(0, 7, Sentences.d(-6.0)) + "get(1, 1, 8, 1) = 1\n"
            + slotIs(1, 8, 2) + "get(2, 1, 6, 1) = 1\n" + slotIs(1, 6, Sentences.f(7f)) + "get(0, 0, 4, 7) = 1\n" + slotIs(7, 4, 0));
        s.says(29, "comes into a SLOT: 1. BAD.", FIELDS + Sentences.each("get(#, 0, 4, 0) ! -1", -1, 4, 5, 100, MIN, MAX)
            + Sentences.each("get(0, #, 4, 0) ! -1", -2, 4, 80, MIN, MAX) + Sentences.each("get(0, 0, #, 0) ! -1", -1, 9, MIN, MAX)
            + Sentences.each("get(0, 0, 4, #) ! -1", -1, 8, MIN, MAX));
    }

    private void getFails() {
        s.says(29, "FAILS: ACCESS;", FIELDS + """
            get(3, 0, 4, 0) ! -16
            get(3, -1, 4, 0) ! -16              // ahead of NULL
            get(3, 2, 4, 0) ! -16               // and of ARGUMENT
            get(3, 0, 3, 0) ! -16
            open(3, true) = 0
            get(3, 0, 4, 0) = 1
            get(3, -1, 4, 0) ! -11
            """);
        s.says(29, "of one that is not STATIC: NULL; ARGUMENT (the THING's type IS NOT the FIELD's);", FIELDS + """
            get(0, -1, 4, 0) ! -11
            get(0, -1, 8, 0) ! -11              // ahead of what does not WIDEN
            get(0, 2, 4, 0) ! -12
            get(0, 3, 4, 0) ! -12
            get(0, 1, 4, 0) = 1
            get(1, 2, 8, 0) ! -12
            """);
        s.says(29, "ARGUMENT: it does not WIDEN so (or is no REFERENCE, or is one).", FIELDS
            + Sentences.each("get(0, 0, #, 0) ! -12", 0, 1, 2, 3, 8) + Sentences.count(0, 7, "get(1, 0, #, 0) ! -12")
            + Sentences.each("get(2, 0, #, 0) ! -12", 0, 1, 2, 3, 4, 8));
        s.says(29, "(Of STATIC ones the THING counts for nothing, but must be there, or NONE.)", FIELDS
            + Sentences.count(-1, 3, "get(2, #, 5, 0) = 1") + Sentences.each("get(2, #, 5, 0) ! -1", -2, 4, 80, MIN, MAX));
    }

    private void set() {
        s.says(30, "A FIELD gets what a SLOT holds: 1. BAD.", FIELDS + """
            slot(0, 2, -6) = 1
            set(0, 0, 0) = 1
            set(2, 3, 0) = 1
            slot(1, 8, 3) = 1
            set(1, 1, 1) = 1
            get(0, 0, 4, 5) = 1
            bits(5) = -6
            get(0, 1, 4, 5) = 1
            bits(5) = 0
            get(2, -1, 5, 5) = 1
            bits(5) = -6
            get(1, 1, 8, 5) = 1
            bits(5) = 3
            kind(0) = 2                         // the SLOT holds it still
            bits(0) = -6
            """ + Sentences.each("set(#, 0, 0) ! -1", -1, 4, 5, 100, MIN, MAX) + Sentences.each("set(0, #, 0) ! -1", -2, 4, 80, MIN, MAX)
            + Sentences.each("set(2, #, 0) ! -1", -2, 4, 80, MIN, MAX) + Sentences.each("set(0, 0, #) ! -1", -1, 8, MIN, MAX));
    }

    private void setFails() {
        s.says(30, "FAILS: ACCESS (also a FINAL one that is not OPENED, or is STATIC);", """
            type(8, 1, false) = 9
            face(1) = 10
            field(9, 0, 9, 4) = 0
            field(9, 1, 13, 4) = 1
            field(10, 0, 13, 4) = 2
            field(9, 2, 10, 4) = 3
            field(9, 3, 2, 4) = 4
            object(9) = 0
            slot(0, 4, 5) = 1
            set(4, 0, 0) ! -16                  // PRIVATE
            caller(9) = 8
            set(4, 0, 0) = 1
            set(0, 0, 0) ! -16
            set(0, -1, 0) ! -16                 // ahead of NULL
            set(1, -1, 0) ! -16
            set(2, -1, 0) ! -16
            set(3, 0, 0) ! -16
            open(0, true) = 0
            open(1, true) = 0
            open(2, true) = 0
            open(3, true) = 0
            set(0, 0, 0) = 1
            set(3, 0, 0) = 1
            set(1, -1, 0) ! -16                 // STATIC and FINAL, though OPENED
            set(2, -1, 0) ! -16
            set(0, -1, 0) ! -11
            get(0, 0, 4, 5) = 1
            bits(5) = 5
            open(0, false) = 1
            set(0, 0, 0) ! -16
            """);
        s.says(30, "NULL, ARGUMENT likewise;", FIELDS + """
            slot(1, 8, 0) = 1
            set(0, -1, 0) ! -11
            set(0, -1, 1) ! -11                 // ahead of what does not GO INTO it
            set(0, 2, 0) ! -12
            set(0, 3, 0) ! -12
            set(3, -1, 0) ! -16
            set(2, -1, 0) = 1
            set(2, 2, 0) = 1
            """);
        s.says(30, "ARGUMENT: it does not GO INTO its type.", FIELDS + """
            slot(0, 5, 1) = 1
            slot(1, 8, -1) = 1
            slot(2, 0, 1) = 1
            slot(3, 6, 1) = 1
            set(0, 0, 0) ! -12
            set(0, 0, 1) ! -12
            set(0, 0, 2) ! -12
            set(1, 0, 0) ! -12
            set(2, 0, 3) ! -12
            set(2, 0, 1) ! -12
            set(2, 0, 0) = 1
            """);
    }

    /** 0 three INTS, 1 three ROOTS, 2 an OBJECT of 9, 3 three of 9, 4 an OBJECT of ROOT. */
    private static final String ROWS = """
        type(8, 0, false) = 9
        rows(4) = 10
        rows(8) = 11
        rows(9) = 12
        row(10, 3) = 0
        row(11, 3) = 1
        object(9) = 2
        row(12, 3) = 3
        object(8) = 4
        slot(0, 4, 6) = 1
        slot(1, 8, 2) = 1
        slot(2, 8, 4) = 1
        slot(3, 8, -1) = 1
        slot(4, 5, 7) = 1
        """;

    private void item() {
        s.says(31, "ITEM i of a THING, widened so, comes into a SLOT: 1. BAD.", ROWS + """
            put(0, 2, 0) = 1
            put(1, 1, 1) = 1
            item(0, 2, 4, 7) = 1
            """ + slotIs(7, 4, 6) + "item(0, 2, 7, 7) = 1\n" + slotIs(7, 7, Sentences.d(6.0)) + "item(0, 1, 5, 7) = 1\n" + slotIs(7, 5, 0)
            + "item(1, 1, 8, 7) = 1\n" + slotIs(7, 8, 2) + "item(1, 0, 8, 7) = 1\n" + slotIs(7, 8, -1)
            + Sentences.each("item(#, 0, 4, 0) ! -1", -2, 5, 80, MIN, MAX) + Sentences.each("item(0, 0, #, 0) ! -1", -1, 9, MIN, MAX)
            + Sentences.each("item(0, 0, 4, #) ! -1", -1, 8, MIN, MAX));
        s.says(31, "FAILS: NULL; ARGUMENT (no ROWS; of PRIMITIVES with as 8, of REFERENCES with another); INDEX; ARGUMENT: it does not"
            + " WIDEN so.", ROWS + """
            item(-1, 0, 4, 0) ! -11
            item(-1, 9, 8, 0) ! -11
            item(2, 0, 4, 0) ! -12
            item(2, 9, 8, 0) ! -12              // ahead of INDEX
            item(0, 0, 8, 0) ! -12
            item(0, 9, 8, 0) ! -12
            item(0, -1, 8, 0) ! -12
            item(1, 9, 4, 0) ! -12
            """ + Sentences.count(0, 7, "item(1, 0, #, 0) ! -12") + Sentences.each("item(0, #, 4, 0) ! -13", -1, 3, MIN, MAX)
            + Sentences.each("item(1, #, 8, 0) ! -13", -1, 3, MIN, MAX) + Sentences.each("item(0, #, 3, 0) ! -13", -1, 3, MIN, MAX)
            + Sentences.each("item(0, 2, #, 0) ! -12", 0, 1, 2, 3));
    }

    private void put() {
        s.says(32, "ITEM i becomes what a SLOT holds: 1. BAD.", ROWS + """
            put(0, 0, 0) = 1
            put(1, 2, 1) = 1
            put(3, 1, 1) = 1
            item(0, 0, 4, 7) = 1
            bits(7) = 6
            item(0, 1, 4, 7) = 1
            bits(7) = 0
            item(1, 2, 8, 7) = 1
            bits(7) = 2
            item(3, 1, 8, 7) = 1
            bits(7) = 2
            put(3, 1, 3) = 1
            item(3, 1, 8, 7) = 1
            bits(7) = -1
            slot(5, 2, -3) = 1
            put(0, 0, 5) = 1
            item(0, 0, 4, 7) = 1
            bits(7) = -3
            """ + Sentences.each("put(#, 0, 0) ! -1", -2, 5, 80, MIN, MAX) + Sentences.each("put(0, 0, #) ! -1", -1, 8, MIN, MAX));
        s.says(32, "FAILS: NULL; ARGUMENT (no ROWS; a PRIMITIVE for REFERENCES, or a REFERENCE for PRIMITIVES); INDEX; ARGUMENT: it"
            + " does not GO INTO the ITEMS' type.", ROWS + """
            put(-1, 0, 0) ! -11
            put(-1, 9, 1) ! -11
            put(2, 0, 0) ! -12
            put(2, 9, 1) ! -12                  // ahead of INDEX
            put(1, 0, 0) ! -12
            put(1, 9, 0) ! -12
            put(0, 0, 1) ! -12
            put(0, 9, 3) ! -12
            put(0, 0, 4) ! -12
            put(3, 0, 2) ! -12
            put(0, 0, 0) = 1
            put(3, 0, 1) = 1
            put(0, 0, 4) ! -12                  // and what was there stays
            put(3, 0, 2) ! -12
            """ + Sentences.each("put(0, #, 0) ! -13", -1, 3, MIN, MAX) + Sentences.each("put(0, #, 4) ! -13", -1, 3, MIN, MAX)
            + Sentences.each("put(3, #, 2) ! -13", -1, 3, MIN, MAX) + "put(0, 2, 0) = 1\nput(3, 2, 1) = 1\n");
    }

    private void store() {
        s.says(33, "Likewise, the THING being taken for ROWS of REFERENCES: 1. BAD: also, the SLOT holds a PRIMITIVE.", ROWS + """
            store(1, 0, 1) = 1
            store(3, 2, 1) = 1
            item(1, 0, 8, 7) = 1
            bits(7) = 2
            item(3, 2, 8, 7) = 1
            bits(7) = 2
            store(3, 2, 3) = 1
            item(3, 2, 8, 7) = 1
            bits(7) = -1
            store(1, 0, 0) ! -1
            store(0, 0, 0) ! -1                 // ahead of CAST
            store(-1, 0, 0) ! -1                // and of NULL
            store(1, 9, 4) ! -1
            """ + Sentences.each("store(#, 0, 1) ! -1", -2, 5, 80, MIN, MAX) + Sentences.each("store(1, 0, #) ! -1", -1, 8, MIN, MAX));
        s.says(33, "FAILS: NULL; CAST: it is none; INDEX; STORE: what the SLOT holds does not GO INTO the ITEMS' type.", ROWS + """
            rows(10) = 13
            row(13, 1) = 5
            slot(5, 8, 0) = 1
            store(-1, 0, 1) ! -11
            store(-1, 9, 1) ! -11
            store(0, 0, 1) ! -18                // ROWS of PRIMITIVES
            store(0, 9, 1) ! -18                // ahead of INDEX
            store(2, 0, 1) ! -18                // an OBJECT
            store(2, -1, 3) ! -18
            store(3, 0, 2) ! -14
            store(3, 0, 1) = 1
            store(3, 0, 2) ! -14                // and what was there stays
            store(5, 0, 1) ! -14
            store(5, 0, 5) = 1                  // ROWS of ROWS are ROWS of REFERENCES
            store(5, 0, 1) ! -14
            """ + Sentences.each("store(1, #, 1) ! -13", -1, 3, MIN, MAX) + Sentences.each("store(3, #, 2) ! -13", -1, 3, MIN, MAX));
    }

    private static String items(int row, int as, long... items) {
        StringBuilder run = new StringBuilder();
        for (int i = 0; i < items.length; i++) {
            run.append("item(" + row + ", " + i + ", " + as + ", 7) = 1\nbits(7) = " + items[i] + "\n");
        }
        return run.toString();
    }

    private static String fill(int row, int kind, long... items) {
        StringBuilder run = new StringBuilder();
        for (int i = 0; i < items.length; i++) {
            run.append("slot(7, " + kind + ", " + items[i] + ") = 1\nput(" + row + ", " + i + ", 7) = 1\n");
        }
        return run.toString();
    }

    private void copy() {
        String ints = "rows(4) = 9\nrow(9, 5) = 0\nrow(9, 3) = 1\n" + fill(0, 4, 1, 2, 3, 4, 5);
        s.says(34, "n ITEMS of a from i on go to b from j on, as if all were taken ahead: 1.",
            ints + "copy(0, 1, 1, 0, 3) = 1\n" + items(1, 4, 2, 3, 4) + items(0, 4, 1, 2, 3, 4, 5),
            ints + "copy(0, 4, 1, 1, 1) = 1\n" + items(1, 4, 0, 5, 0),
            ints + "copy(0, 0, 0, 1, 4) = 1\n" + items(0, 4, 1, 1, 2, 3, 4),
            ints + "copy(0, 1, 0, 0, 4) = 1\n" + items(0, 4, 2, 3, 4, 5, 5),
            ints + "copy(0, 0, 0, 0, 5) = 1\n" + items(0, 4, 1, 2, 3, 4, 5),
            ints + "copy(0, 0, 1, 0, 0) = 1\n" + items(1, 4, 0, 0, 0),
            "type(8, 0, false) = 9\nrows(8) = 10\nrows(9) = 11\nobject(9) = 0\nrow(10, 3) = 1\nrow(11, 3) = 2\n"
            + fill(1, 8, 0, -1, 0) + "copy(1, 0, 2, 0, 3) = 1\n" + items(2, 8, 0, -1, 0) + fill(2, 8, -1, 0, -1)
            + "copy(2, 0, 1, 0, 3) = 1\n" + items(1, 8, -1, 0, -1),
            "rows(5) = 9\nrow(9, 20) = 0\nrow(9, 20) = 1\nslot(0, 5, -1234567890123) = 1\nput(0, 19, 0) = 1\ncopy(0, 0, 1, 0, 20) = 1\n"
            + "item(1, 19, 5, 1) = 1\nbits(1) = -1234567890123\n");
        s.says(34, "BAD: a, b are no THINGS, nor NONE.", ints + Sentences.each("copy(#, 0, 1, 0, 1) ! -1", -2, 2, 80, MIN, MAX)
            + Sentences.each("copy(0, 0, #, 0, 1) ! -1", -2, 2, 80, MIN, MAX) + """
            copy(-1, 0, 2, 0, 1) ! -1           // ahead of NULL
            copy(2, 0, -1, 0, 1) ! -1
            copy(-1, 0, 1, 0, 1) ! -11
            copy(0, 0, -1, 0, 1) ! -11
            """);
    }

    private void copyFails() {
        String house = """
            type(8, 0, false) = 9
            rows(4) = 10
            rows(3) = 11
            rows(8) = 12
            rows(9) = 13
            rows(10) = 14
            row(10, 3) = 0
            row(11, 3) = 1
            row(12, 3) = 2
            row(13, 3) = 3
            row(14, 3) = 4
            object(9) = 5
            object(8) = 6
            """;
        s.says(34, "FAILS: NULL; STORE: one is no ROWS;", house + """
            copy(-1, 0, 0, 0, 1) ! -11
            copy(0, 0, -1, 0, 1) ! -11
            copy(-1, 0, -1, 0, 1) ! -11
            copy(5, 0, -1, 0, 1) ! -11          // NULL is ahead of STORE
            copy(-1, 0, 5, 0, 1) ! -11
            copy(-1, 9, 0, 9, 9) ! -11
            copy(5, 0, 0, 0, 0) ! -14
            copy(0, 0, 5, 0, 0) ! -14
            copy(5, 0, 5, 0, 0) ! -14
            copy(5, 0, 6, 0, 0) ! -14
            copy(2, 0, 5, 0, 0) ! -14
            copy(5, 0, 2, 0, 0) ! -14
            copy(5, -1, 2, 9, 9) ! -14          // STORE is ahead of INDEX
            copy(0, 9, 5, -1, -1) ! -14
            """);
        s.says(34, "or one has ITEMS of a PRIMITIVE, and the other one not the same;", house + """
            copy(0, 0, 1, 0, 0) ! -14
            copy(1, 0, 0, 0, 1) ! -14
            copy(0, 0, 2, 0, 0) ! -14
            copy(2, 0, 0, 0, 0) ! -14
            copy(0, 0, 4, 0, 0) ! -14
            copy(4, 0, 0, 0, 0) ! -14
            copy(1, 9, 0, 0, -1) ! -14          // STORE is ahead of INDEX
            copy(0, 0, 0, 0, 3) = 1
            copy(2, 0, 3, 0, 3) = 1             // of REFERENCES they need not be the same
            copy(4, 0, 3, 0, 3) = 1
            """);
        StringBuilder spans = new StringBuilder();
        int[][] over = {{-1, 0, 1}, {0, -1, 1}, {0, 0, -1}, {-1, -1, 0}, {0, 0, 4}, {1, 0, 3}, {0, 1, 3}, {3, 0, 1}, {0, 3, 1}, {4, 0, 0},
            {0, 4, 0}, {-1, 0, 0}, {0, -1, 0}, {3, 3, -1}, {1, 1, MAX}, {MAX, 0, 1}, {0, MAX, 1}, {MAX, MAX, MAX}, {MIN, 0, 1},
            {0, MIN, 1}, {0, 0, MIN}, {MIN, MIN, MIN}, {1, 0, MAX}, {0, 1, MAX}};
        for (int[] o : over) {
            spans.append("copy(0, " + o[0] + ", 0, " + o[1] + ", " + o[2] + ") ! -13\n");
            spans.append("copy(2, " + o[0] + ", 3, " + o[1] + ", " + o[2] + ") ! -13\n");
        }
        s.says(34, "INDEX: i, j, n below 0, or more than there are;", house + spans + "copy(0, 3, 0, 3, 0) = 1\ncopy(0, 0, 0, 0, 3) = 1\n"
            + "copy(0, 2, 0, 2, 1) = 1\nrow(10, 0) = 7\ncopy(7, 0, 7, 0, 0) = 1\ncopy(7, 0, 0, 0, 1) ! -13\ncopy(0, 0, 7, 0, 1) ! -13\n");
        s.says(34, "STORE: an ITEM does not GO INTO b's ITEMS' type (those ahead of it have gone).",
            house + fill(2, 8, 5, 6, 5) + "copy(2, 0, 3, 0, 3) = -14\n" + items(3, 8, 5, -1, -1),
            house + fill(2, 8, 5, 5, 6) + "copy(2, 0, 3, 0, 3) = -14\n" + items(3, 8, 5, 5, -1),
            house + fill(2, 8, 6, 5, 5) + "copy(2, 0, 3, 0, 3) ! -14\ncopy(2, 1, 3, 0, 2) = 1\n" + items(3, 8, 5, 5, -1),
            house + fill(2, 8, 5, 6, 5) + "copy(2, 0, 3, 1, 2) = -14\n" + items(3, 8, -1, 5, -1) + items(2, 8, 5, 6, 5),
            house + fill(2, 8, 5, 6, 5) + """
            copy(2, 0, 3, 1, 3) ! -13           // INDEX is ahead: none has gone
            copy(2, 1, 3, 0, 0) = 1             // none goes, so none that does not
            copy(2, 2, 3, 0, 1) = 1
            """);
    }

    private void refusedAheadOfFailures() {
        s.says(29, "Refused, and nothing changes: BAD (a number is none that is told, there is no such thing, it is not as told), NO (not"
            + " as things stand), FULL; of several the first; ahead of FAILURES.", FIELDS + """
            get(3, -1, 9, 0) ! -1               // ahead of ACCESS
            get(0, -1, 4, 8) ! -1               // of NULL
            get(0, 2, -1, 0) ! -1               // of ARGUMENT
            set(3, -1, 8) ! -1
            set(0, 4, 0) ! -1
            item(-1, 0, 9, 0) ! -1
            item(0, 0, 4, 8) ! -1
            item(3, 9, 8, -1) ! -1
            put(-1, 0, 8) ! -1
            put(0, 0, -1) ! -1
            store(-1, 0, 8) ! -1
            store(0, 0, 0) ! -1
            copy(-1, 0, 4, 0, 0) ! -1
            copy(0, -1, 4, -1, -1) ! -1
            call(4, -1, 4, 0) ! -1
            call(4, 2, 1, 8) ! -1
            row(11, 21) ! -1
            row(9, -1) ! -1
            """);
    }
}
