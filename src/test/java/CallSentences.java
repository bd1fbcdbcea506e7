/** What the document says of calls, causes and counts: promises 35 to 37. */
final class CallSentences {
    private static final int MIN = Integer.MIN_VALUE;
    private static final int MAX = Integer.MAX_VALUE;
    /** Of 9: 0 adds its PARAMS, 1 is STATIC and gives the second, 2 is PRIVATE; 10 is its child; 3 a FIELD. */
    private static final String HOUSE = """
        type(8, 1, false) = 9
        type(9, 1, false) = 10
        rows(9) = 11
        method(9, 0, 1, 5, 2, 4, 5, 0) = 0
        method(9, 1, 5, 7, 2, 4, 5, 0) = 1
        method(9, 2, 2, 4, 2, 4, 5, 0) = 2
        field(9, 0, 1, 4) = 3
        body(0, 6, 0, 1) = 1
        body(1, 1, 1, 0) = 1
        body(2, 4, 1, 0) = 1
        object(9) = 0
        object(10) = 1
        object(8) = 2
        row(11, 1) = 3
        slot(0, 4, 6) = 1
        slot(1, 5, 7) = 1
        """;
    private final Sentences s;

    private CallSentences(Sentences s) {
        this.s = s;
    }

    static void tell(Sentences s) {
        CallSentences c = new CallSentences(s);
        c.call();
        c.callRefused();
        c.callFails();
        c.callFailsByArguments();
        c.callEnds();
        c.cause();
        c.count();
        c.manyCalls();
    }

    private static String causeIs(int failure, int method, int within) {
        return "cause(0) = " + failure + "\ncause(1) = " + method + "\ncause(2) = " + within + "\n";
    }

    private static String slotIs(int slot, int kind, long bits) {
        return "kind(" + slot + ") = " + kind + "\nbits(" + slot + ") = " + bits + "\n";
    }

    private void call() {
        StringBuilder results = new StringBuilder("type(8, 0, false) = 9\nrows(4) = 10\n");
        int[] of = {-1, 0, 1, 2, 3, 4, 5, 6, 7, 8, 9, 10};
        for (int i = 0; i < of.length; i++) {
            int kind = of[i] < 0 ? 4 : Math.min(8, of[i]);
            results.append("method(9, " + i + ", 5, " + of[i] + ", 0, 0, 0, 0) = " + i + "\nslot(7, 3, 99) = 1\ncall(" + i
                + ", -1, 0, 7) = 1\n" + slotIs(7, kind, kind == 8 ? -1 : 0));
        }
        s.says(35, "A METHOD is called for a THING with what the first n SLOTS hold; what it comes to is in a SLOT (of its RESULT's"
            + " PRIMITIVE, or 8; nothing: INT 0): 1.", HOUSE + "call(0, 0, 2, 7) = 1\n" + slotIs(7, 5, 13) + "call(0, 1, 2, 0) = 1\n"
            + slotIs(0, 5, 13) + slotIs(1, 5, 7) + "slot(0, 4, 1) = 1\ncall(1, -1, 2, 6) = 1\n" + slotIs(6, 7, Sentences.d(7.0)),
            results.toString(), """
            type(8, 0, false) = 9
            method(9, 0, 5, 8, 3, 8, 8, 8) = 0
            method(9, 1, 5, 8, 3, 8, 8, 8) = 1
            method(9, 2, 5, 8, 3, 8, 8, 8) = 2
            body(0, 1, 0, 0) = 1
            body(1, 1, 1, 0) = 1
            body(2, 1, 2, 0) = 1
            object(8) = 0
            object(8) = 1
            slot(0, 8, 0) = 1
            slot(1, 8, 1) = 1
            slot(2, 8, -1) = 1
            call(0, -1, 3, 5) = 1
            """ + slotIs(5, 8, 0) + "call(1, -1, 3, 5) = 1\n" + slotIs(5, 8, 1) + "call(2, -1, 3, 5) = 1\n" + slotIs(5, 8, -1));
    }

    private void callRefused() {
        s.says(35, "BAD: also n is not 0 .. 3.", HOUSE + Sentences.each("call(0, 0, #, 7) ! -1", -1, 4, MIN, MAX)
            + Sentences.each("call(#, 0, 2, 7) ! -1", -1, 3, 4, 100, MIN, MAX) + Sentences.each("call(0, #, 2, 7) ! -1", -2, 4, 80, MIN, MAX)
            + Sentences.each("call(0, 0, 2, #) ! -1", -1, 8, MIN, MAX) + """
            call(2, -1, 4, 7) ! -1              // ahead of ACCESS
            call(0, -1, 4, 7) ! -1              // of NULL
            call(0, 2, -1, 7) ! -1              // of ARGUMENT
            call(0, 0, 0, 8) ! -1
            """);
    }

    private void callFails() {
        s.says(35, "FAILS: ACCESS;", HOUSE + """
            call(2, 0, 2, 7) ! -16
            call(2, -1, 2, 7) ! -16             // ahead of NULL
            call(2, 2, 2, 7) ! -16              // of ARGUMENT
            call(2, 0, 1, 7) ! -16
            caller(9) = 8
            call(2, 0, 2, 7) = -19
            caller(10) = 9
            call(2, 1, 2, 7) ! -16
            open(2, true) = 0
            call(2, 1, 2, 7) = -19
            """, """
            type(8, 1, false) = 9
            type(9, 2, false) = 10
            method(9, 0, 3, 4, 0, 0, 0, 0) = 0
            object(9) = 0
            object(10) = 1
            caller(10) = 8
            call(0, 0, 0, 7) ! -16              // GUARDED: the OBJECT must be of THE CALLER
            call(0, -1, 0, 7) ! -16
            call(0, 1, 0, 7) = 1
            """, """
            type(8, 1, false) = 9
            type(9, 1, false) = 10
            method(9, 0, 1, 4, 0, 0, 0, 0) = 0
            method(10, 0, 0, 4, 0, 0, 0, 0) = 1 // IN FORCE for 10, but its PACKAGE's alone
            method(9, 1, 0, 4, 0, 0, 0, 0) = 2
            method(10, 1, 1, 4, 0, 0, 0, 0) = 3
            object(10) = 0
            call(0, 0, 0, 7) = 1                // ACCESS is to the one that is told
            call(1, 0, 0, 7) ! -16
            call(2, 0, 0, 7) ! -16
            call(3, 0, 0, 7) = 1
            open(3, true) = 0
            call(2, 0, 0, 7) ! -16
            open(2, true) = 0
            call(2, 0, 0, 7) = 1
            """);
        s.says(35, "of one that is not STATIC: NULL; ARGUMENT (the THING's type IS NOT the METHOD's);", HOUSE + """
            call(0, -1, 2, 7) ! -11
            call(0, -1, 1, 7) ! -11             // ahead of ARGUMENT
            call(0, 2, 2, 7) ! -12
            call(0, 3, 2, 7) ! -12
            call(0, 1, 2, 7) = 1
            """);
        s.says(35, "(Of STATIC ones as get().)", HOUSE + Sentences.count(-1, 3, "call(1, #, 2, 7) = 1")
            + Sentences.each("call(1, #, 2, 7) ! -1", -2, 4, 80, MIN, MAX));
    }

    private void callFailsByArguments() {
        s.says(35, "ARGUMENT: n is not how many PARAMS; a SLOT does not GO INTO its PARAM;", HOUSE + """
            call(0, 0, 0, 7) ! -12
            call(0, 0, 1, 7) ! -12
            call(0, 0, 3, 7) ! -12
            call(1, -1, 3, 7) ! -12
            call(0, 0, 2, 7) = 1
            slot(0, 5, 1) = 1
            call(0, 0, 2, 7) ! -12              // a LONG for an INT
            slot(0, 8, -1) = 1
            call(0, 0, 2, 7) ! -12
            slot(0, 1, 65) = 1
            call(0, 0, 2, 7) = 1
            slot(1, 6, 0) = 1
            call(0, 0, 2, 7) ! -12              // a FLOAT for a LONG
            slot(1, 2, -1) = 1
            call(0, 0, 2, 7) = 1
            bits(7) = 64
            count(4) = 0
            """, """
            type(8, 0, false) = 9
            type(9, 0, false) = 10
            method(9, 0, 5, 8, 3, 10, 9, 8) = 0
            body(0, 1, 0, 0) = 1
            object(9) = 0
            object(10) = 1
            slot(0, 8, 0) = 1
            slot(1, 8, 1) = 1
            slot(2, 8, 0) = 1
            call(0, -1, 3, 7) ! -12             // 9 IS NOT 10
            slot(0, 8, 1) = 1
            call(0, -1, 3, 7) = 1
            slot(2, 4, 0) = 1
            call(0, -1, 3, 7) ! -12
            slot(2, 8, -1) = 1
            slot(0, 8, -1) = 1
            call(0, -1, 3, 7) = 1
            bits(7) = -1
            """);
        s.says(35, "A VALUE GOES INTO a type: a PRIMITIVE that WIDENS to it (it is widened);", widenedParams());
    }

    /** A SLOT of each NUMBER for a PARAM of each to which it WIDENS, which is given back as it came. */
    private static String widenedParams() {
        StringBuilder run = new StringBuilder("type(8, 0, false) = 9\n");
        long[] five = {0, 5, 5, 5, 5, 5, Sentences.f(5f), Sentences.d(5.0)};
        for (int to = 1; to <= 7; to++) {
            run.append("method(9, " + to + ", 5, " + to + ", 3, 4, " + to + ", 4) = " + (to - 1) + "\nbody(" + (to - 1) + ", 1, 1, 0) = 1\n");
        }
        for (int from = 1; from <= 7; from++) {
            run.append("slot(1, " + from + ", " + five[from] + ") = 1\n");
            for (int to = 1; to <= 7; to++) {
                boolean goes = from == to || (from == 1 ? to >= 4 : from < to);
                run.append("call(" + (to - 1) + ", -1, 3, 7) " + (goes ? "= 1\n" + slotIs(7, to, five[to]) : "! -12\n"));
            }
        }
        return run.toString();
    }

    private void callEnds() {
        s.says(35, "CAUSE: what it ended by.", """
            type(8, 0, false) = 9
            type(9, 0, true) = 10
            type(10, 0, false) = 11
            method(9, 0, 1, 4, 1, 4, 0, 0) = 0
            method(10, 1, 16, 4, 1, 4, 0, 0) = 1
            body(0, 4, 3, 0) = 1
            object(11) = 0
            slot(5, 2, 9) = 1
            call(0, 0, 0, 5) ! -12              // ARGUMENT is ahead of CAUSE
            call(1, 0, 0, 5) ! -12
            call(1, -1, 1, 5) ! -11
            call(0, 0, 1, 5) = -19
            """ + causeIs(3, 0, 0) + "call(1, 0, 1, 5) = -19\n" + causeIs(7, 1, 0) + slotIs(5, 2, 9) + "count(4) = 2\n");
    }

    private void cause() {
        String house = "type(8, 0, false) = 9\nmethod(9, 0, 5, 4, 0, 0, 0, 0) = 0\nmethod(9, 1, 5, 4, 0, 0, 0, 0) = 1\n"
            + "method(9, 2, 5, 4, 0, 0, 0, 0) = 2\nbody(1, 4, 6, 0) = 1\nbody(2, 5, 1, 0) = 1\n";
        s.says(36, "Of the latest call() that FAILED by CAUSE: 0 the FAILURE, 1 the METHOD whose BODY FAILED (DEEP, ABSTRACT: the one that"
            + " was to be called, as told), 2 within how many others that was.", house + "call(2, -1, 0, 0) = -19\n" + causeIs(6, 1, 1)
            + "call(0, -1, 0, 0) = 1\n" + causeIs(6, 1, 1) + "call(0, -1, 1, 0) ! -12\ncall(0, 0, 0, 0) ! -1\n" + causeIs(6, 1, 1)
            + "call(1, -1, 0, 0) = -19\n" + causeIs(6, 1, 0));
        s.says(36, "(DEEP, ABSTRACT: the one that was to be called, as told),", """
            type(8, 0, true) = 9
            type(9, 0, false) = 10
            method(9, 0, 1, 4, 0, 0, 0, 0) = 0
            method(10, 0, 1, 4, 0, 0, 0, 0) = 1
            body(1, 5, 0, 0) = 1                // 0 is told, 1 is IN FORCE for it
            method(9, 1, 17, 4, 0, 0, 0, 0) = 2
            method(9, 2, 1, 4, 0, 0, 0, 0) = 3
            body(3, 5, 2, 0) = 1
            object(10) = 0
            call(1, 0, 0, 0) = -19
            """ + causeIs(10, 0, 12) + "call(3, 0, 0, 0) = -19\n" + causeIs(7, 2, 1));
        s.says(36, "0, 0, 0: none yet. BAD: another what.", house + causeIs(0, 0, 0) + "call(0, -1, 0, 0) = 1\n" + causeIs(0, 0, 0)
            + "call(1, -1, 1, 0) ! -12\n" + causeIs(0, 0, 0) + Sentences.each("cause(#) ! -1", -1, 3, MIN, MAX)
            + "call(1, -1, 0, 0) = -19\n" + Sentences.each("cause(#) ! -1", -1, 3, MIN, MAX));
    }

    private void count() {
        s.says(37, "How many: 0 TYPES, 1 MEMBERS, 2 THINGS,", """
            count(0) = 9
            count(1) = 0
            count(2) = 0
            type(8, 0, false) = 9
            face(0) = 10
            rows(9) = 11
            rows(9) = 11
            count(0) = 12
            field(9, 0, 1, 4) = 0
            method(9, 0, 1, 4, 0, 0, 0, 0) = 1
            count(1) = 2
            object(9) = 0
            row(11, 3) = 1
            count(2) = 2
            count(0) = 12
            """);
        s.says(37, "3 METHODS that were begun in all calls,", """
            type(8, 0, true) = 9
            type(9, 0, false) = 10
            method(9, 0, 5, 4, 0, 0, 0, 0) = 0
            method(9, 1, 5, 4, 0, 0, 0, 0) = 1
            method(9, 2, 17, 4, 0, 0, 0, 0) = 2
            method(9, 3, 5, 4, 0, 0, 0, 0) = 3
            method(9, 4, 5, 4, 0, 0, 0, 0) = 4
            body(1, 5, 0, 0) = 1
            body(3, 4, 1, 0) = 1
            body(4, 5, 4, 0) = 1
            object(10) = 0
            count(3) = 0
            call(0, -1, 0, 5) = 1
            count(3) = 1
            call(1, -1, 0, 5) = 1
            count(3) = 3
            call(2, 0, 0, 5) = -19              // none was begun
            count(3) = 3
            call(3, -1, 0, 5) = -19             // begun, though it FAILED
            count(3) = 4
            call(4, -1, 0, 5) = -19             // the one that is too deep is not begun
            count(3) = 16
            call(0, -1, 1, 5) ! -12
            call(0, -1, 4, 5) ! -1
            count(3) = 16
            """);
        s.says(37, "4 calls that FAILED by CAUSE,", """
            type(8, 0, false) = 9
            method(9, 0, 5, 4, 0, 0, 0, 0) = 0
            method(9, 1, 5, 4, 0, 0, 0, 0) = 1
            method(9, 2, 5, 4, 0, 0, 0, 0) = 2
            body(0, 4, 1, 0) = 1
            body(1, 5, 0, 0) = 1
            count(4) = 0
            call(0, -1, 0, 5) = -19
            count(4) = 1
            call(1, -1, 0, 5) = -19             // one call, though two METHODS FAILED
            count(4) = 2
            call(2, -1, 0, 5) = 1
            call(0, -1, 1, 5) ! -12
            call(0, 0, 0, 5) ! -1
            count(4) = 2
            """);
        s.says(37, "5 FIELDS. BAD.", """
            type(8, 0, false) = 9
            face(0) = 10
            count(5) = 0
            field(9, 0, 1, 4) = 0
            method(9, 0, 1, 4, 0, 0, 0, 0) = 1
            field(9, 1, 5, 4) = 2
            field(9, 1, 5, 4) ! -2
            field(10, 1, 13, 4) = 3
            count(5) = 3
            count(1) = 4
            """ + Sentences.each("count(#) ! -1", -1, 6, MIN, MAX));
    }

    /** Each call but the last ones fills what can be filled or is as dear as a call can be. */
    private void manyCalls() {
        StringBuilder run = new StringBuilder("type(8, 0, false) = 9\nrows(5) = 10\n");
        run.append(Sentences.count(11, 59, "face(0) = #"));
        for (int m = 0; m < 100; m++) {
            run.append("method(9, " + m % 20 + ", 1, 5, 1, " + (m / 20 + 4 == 8 ? 9 : m / 20 + 4) + ", 0, 0) = " + m + "\n");
        }
        run.append("body(0, 5, 0, 0) = 1\nobject(9) = 0\n");
        run.append(Sentences.count(1, 79, "row(10, 20) = #"));
        int calls = 2 + 49 + 100 + 2 + 79;
        int begun = 0;
        while (calls < 509) {
            run.append("call(0, 0, 1, 1) = -19\n");
            begun += 12;
            calls++;
        }
        s.says(35, "An object is used for at most 512 calls after it has been made;", run + "count(3) = " + begun
            + "\ncount(4) = " + begun / 12 + "\ncause(2) = 12\n");
    }
}
