/** The edges of promises 36 to 41: the fraction, images, what was refused, counts and the digest. */
public final class EdgeKeepTest {

    private static final Check CHECK = new Check();

    private static void part() {
        CHECK.sentence(36, "above (0), below (1); BAD", """
            part(-1) = BAD | part(2) = BAD | part(MIN) = BAD | part(MAX) = BAD | part(0) = 0 | part(1) = 1
            status(0) = 4
            """);
        CHECK.sentence(36, "THE FRACTION is 0 by 1 at first; lowest terms, below above 0", """
            part(0) = 0 | part(1) = 1 | flitch(0, 0, 2) | family(0, 0, 0, 2) | mornings(0, 2, 5) | part(0) = 1
            part(1) = 4 | mornings(0, 2, 4) | part(0) = 9 | part(1) = 25 | mornings(0, 2, 3) | part(0) = 49
            part(1) = 100 | mornings(0, 1, 3) | part(0) = 0 | part(1) = 1 | mornings(0, 2, 0) | part(0) = 1 | part(1) = 1
            """);
        CHECK.sentence(36, "THE FRACTION stays until MORNINGS are told again", """
            flitch(0, 0, 2) | family(0, 0, 0, 1) | mornings(0, 1, 3) | days(1) = 1 | undo() = 0 | image(0) | parish()
            from(0) | goes(0, 24) | mornings(0, 7, 3) = BAD | mornings(1, 1, 3) = BAD | part(0) = 7 | part(1) = 10
            """);
    }

    private static void image() {
        CHECK.sentence(37, "IMAGES 0, 1", """
            image(-1) = BAD | image(2) = BAD | image(MIN) = BAD | image(MAX) = BAD | from(0) = NO | from(1) = NO
            image(0) = 1 | from(1) = NO | from(0) = 1 | image(1) = 1 | from(1) = 1
            """);
        CHECK.sentence(37, "an IMAGE of nothing, of all that there is room for; one leaves the other alone",
            "image(1) = 1\n" + EdgeParishTest.full() + """
            8 x turnip(6) | image(0) = 1 | digest() | from(1) = 1 | count(0) = 0 | count(1) = 0 | count(6) = 0
            count(7) = 0 | count(8) = 0 | count(9) = 0 | undo() = NO | family(0, 0, 0, 1) = 0 | flitch(0, 0, 1) = 0
            from(0) = 1 | count(0) = 7 | count(1) = 3 | count(6) = 5 | count(7) = 6 | count(8) = 6 | count(9) = 8
            family(0, 0, 0, 1) = FULL | flitch(0, 0, 1) = FULL | seen(0, 0, 0) = FULL | note(0, 1, 0, 0, 0) = FULL
            mark(0, 0, 0, 0) = FULL | of(6, 3) = 88 | from(1) = 1 | count(0) = 0 | seen(0, 0, 0) = BAD
            """);
        CHECK.sentence(37, "all seven and all three, whoever came in their place",
            EdgeParishTest.full() + "image(1) = 1 | digest() = 7885414408615976560 | parish() = 7" + """
            \n3 x flitch(1, 1, 1) | 7 x family(5, 1, 9, 33) | outs(1) | outs(2) | from(1) = 1
            digest() = 7885414408615976560 | of(3, 0) = 3 | of(4, 1) = 0 | of(5, 2) = 6 | of(6, 3) = 64 | about(2, 2) = 7
            about(2, 3) = 1
            """);
        CHECK.sentence(37, "an IMAGE is kept anew", """
            family(0, 0, 0, 9) | image(0) = 1 | turnip(0) = 12 | image(0) = 1 | turnip(0) = 15 | from(0) = 1
            of(0, 3) = 12 | count(9) = 1 | undo() = 0 | of(0, 3) = 9 | from(0) = 1 | of(0, 3) = 12
            """);
        CHECK.sentence(37, "keeping one changes nothing, refused or not", """
            family(0, 0, 0, 9) | turnip(0) | count(9) = 1 | image(0) = 1 | image(2) = BAD | count(9) = 1 | undo() = 0
            of(0, 3) = 9
            """);
        CHECK.sentence(37, "what may be undone they keep", """
            flitch(0, 0, 2) | family(0, 0, 0, 9) | days(1) | goes(0, 3) = 0 | outs(0) = 0 | image(1) = 1 | undo() = 1
            undo() = 1 | undo() = 0 | undo() = NO | from(1) = 1 | count(9) = 3 | undo() = 1 | about(0, 3) = 1
            undo() = 1 | of(0, 2) = 0 | undo() = 0 | of(0, 3) = 9 | undo() = NO | from(1) = 1 | count(9) = 3
            """, """
            family(0, 0, 0, 9) | image(0) = 1 | turnip(0) | from(0) = 1 | count(9) = 0 | undo() = NO | of(0, 3) = 9
            """);
        CHECK.sentence(37, "what was SEEN, NOTED, MARKED and may be undone is kept as it was, whatever came after", """
            flitch(0, 0, 2) | flitch(0, 24, 1) | family(0, 0, 0, 9) | family(0, 1, 0, 9) | seen(0, 5, 0) | seen(0, 6, 1)
            note(0, 7, 0, 1, 7) | note(0, 7, 0, 14, 12) | mark(1, 7, 1, 3) | mark(1, 7, 20, 4)
            turnip(0) | goes(1, 7) | wills(0, 0) = 1 | wills(0, 1) = 6 | is(0) = 36 | kinds(1) = 16 | image(1) = 1
            forget(0) | forget(1) | forget(2) | seen(1, 60, 0) | seen(1, 1, 1) | note(1, 1, 1, 1, 1)
            note(1, 2, 2, 2, 2) | mark(0, 1, 1, 1) | mark(0, 2, 2, 2) | undo() = 0 | undo() = 0 | outs(1) | days(9)
            wills(0, 0) = 99 | is(0) = 63 | kinds(1) = 63 | from(1) = 1 | wills(0, 0) = 1 | wills(0, 1) = 6 | is(0) = 36
            kinds(1) = 16 | is(1) = 63 | wills(1, 0) = 99 | undo() = 0 | of(1, 2) = 0 | of(0, 3) = 12 | undo() = 0
            of(0, 3) = 9 | about(1, 3) = 1 | undo() = NO
            """);
        CHECK.sentence(37, "all but them, THE TEXT, THE FRACTION and STATUS", """
            flitch(0, 0, 2) | family(0, 0, 0, 1) | type(65) = 1 | mornings(0, 1, 3) | image(0) = 1 | image(1) = 1
            type(66) = 2 | mornings(0, 1, 4) | days(0) = BAD | undo() = NO | 2 x flitch(0, 0, 1)
            flitch(0, 0, 1) = FULL | image(1) = 1 | from(0) = 1 | count(10) = 2 | part(0) = 3 | part(1) = 5 | status(0) = 1 | status(1) = 1
            status(2) = 1 | count(1) = 1 | from(1) = 1 | count(1) = 3
            """);
    }

    private static void from() {
        CHECK.sentence(38, "BAD; NO: none was kept", """
            family(0, 0, 0, 9) | turnip(0) | from(-1) = BAD | from(2) = BAD | from(MIN) = BAD | from(MAX) = BAD
            from(0) = NO | from(1) = NO | of(0, 3) = 12 | count(9) = 1 | image(0) = 1 | from(1) = NO | from(0) = 1
            from(2) = BAD | status(0) = 5 | status(1) = 3
            """);
        CHECK.sentence(38, "it goes on from an IMAGE, as often as it is wanted, and leaves it as it is", """
            flitch(0, 0, 2) | family(0, 0, 0, 9) | seen(0, 1, 1) | image(0) = 1 | days(9) = 1 | from(0) = 1
            of(0, 3) = 9 | of(0, 4) = 0 | count(4) = 0 | forget(0) = 1 | turnip(0) = 12 | outs(0) = 0 | goes(0, 5) = 0
            from(0) = 1 | count(6) = 1 | of(0, 3) = 9 | of(0, 2) = 0 | about(0, 3) = 1 | count(9) = 0
            """);
        CHECK.sentence(38, "an IMAGE outlasts parish and read", """
            family(0, 0, 0, 9) | image(1) = 1 | parish() = 1 | from(1) = 1 | count(0) = 1
            text parish;
            read() = 1 | count(0) = 0 | from(1) = 1 | of(0, 3) = 9 | from(0) = NO
            """);
    }

    private static void status() {
        CHECK.sentence(39, "BAD (0), NO (1), FULL (2); -1: another what (counts as BAD)", """
            status(0) = 0 | status(1) = 0 | status(2) = 0 | status(-1) = -1 BAD | status(3) = -1 BAD
            status(MIN) = -1 BAD | status(MAX) = -1 BAD | status(0) = 4 | status(1) = 0 | status(2) = 0
            """);
        CHECK.sentence(39, "each refused call is counted once, by its own reason", """
            days(0) = BAD | status(0) = 1 | undo() = NO | status(1) = 1 | 3 x flitch(0, 0, 1)
            flitch(0, 0, 1) = FULL | status(2) = 1 | family(9, 9, 99, 999) = BAD | status(0) = 2 | status(1) = 1
            status(2) = 1 | way(0, 0, -1) = -10 BAD | marry(9) = -10 BAD | status(0) = 4 | status(9) = -1 BAD
            status(0) = 5 | part(9) = BAD | count(99) = BAD | status(0) = 7
            """);
        CHECK.sentence(39, "NONE, 0, -5 and a FAULT are answers, not refusals", """
            family(0, 0, 0, 9) | family(3, 1, 0, 6) | flitch(0, 0, 1) | note(0, 1, 0, 0, 60) | mark(0, 0, 0, 40)
            seen(0, 0, 1) | when(0) = NONE | right() = NONE | marry(0) = 1 | quiet(1) = NONE | wills(0, 1) = NONE
            look(0) = NONE | ask(0) = NONE | way(0, 1, 1) = -5 | read() = -10 | clear() = 0 | ends(1) | status(0) = 0
            status(1) = 0 | status(2) = 0
            """);
        CHECK.sentence(39, "STATUS outlasts parish, read, undo and images", """
            image(0) = 1 | days(61) = BAD | undo() = NO | 150 x type(32) | type(32) = FULL | parish() = 0
            status(0) = 1 | status(1) = 1 | status(2) = 1 | from(0) = 1 | days(1) | undo() = 0 | clear() = 150
            text parish;
            read() = 1 | status(0) = 1 | status(1) = 1 | status(2) = 1
            """);
        CHECK.sentence(39, "many", "100 x days(0) = BAD | 50 x undo() = NO | 3 x flitch(0, 0, 1)\n"
            + "70 x flitch(0, 0, 1) = FULL | status(0) = 100 | status(1) = 50 | status(2) = 70");
    }

    /** The last call that is promised, asked without a script, which would need calls of its own. */
    private static void lastCall() {
        CHECK.promise(39, "an object is used for at most 512 calls");
        RasherCase x = new RasherCase();
        for (int call = 1; call <= 511; call++) {
            CHECK.due("call " + call + ": days(0)", x.days(0), RasherCase.BAD);
        }
        CHECK.due("call 512: status(0)", x.status(0), 511);
        RasherCase y = new RasherCase();
        for (int call = 1; call <= 511; call++) {
            CHECK.due("call " + call + ": days(60)", y.days(60), 0);
        }
        CHECK.due("call 512: count(4)", y.count(4), 9999);
    }

    private static void count() {
        CHECK.sentence(40, "how many: 0 to 10; BAD", """
            count(-1) = BAD | count(11) = BAD | count(MIN) = BAD | count(MAX) = BAD | count(0) = 0 | count(10) = 0
            status(0) = 4
            """);
        CHECK.sentence(40, "the most that can be", """
            3 x flitch(5, 24, 20) | 7 x family(0, 0, 0, 99) | outs(2) | outs(2) | 5 x seen(0, 0, 0)
            6 x note(0, 1, 0, 0, 0) | 6 x mark(0, 0, 0, 0) | 9 x turnip(0) | 150 x type(32)
            count(0) = 7 | count(1) = 3 | count(2) = 3 | count(3) = 0 | count(4) = 0 | count(5) = 693 | count(6) = 5
            count(7) = 6 | count(8) = 6 | count(9) = 8 | count(10) = 150
            """);
        CHECK.sentence(40, "2 of these hung, 3 LAPSED, 4 the DAY, 5 WILL of all", """
            3 x flitch(0, 0, 20) | family(0, 0, 0, 31) | 6 x family(0, 0, 0, 30) | outs(0) | outs(2) | count(2) = 1
            outs(1) | count(2) = 0 | outs(0) | outs(1) | outs(2) | count(2) = 3 | days(1) = 6 | count(3) = 6
            count(5) = 1 | count(4) = 1 | days(1) = 7 | count(3) = 7 | count(5) = 0 | count(4) = 2
            """);
    }

    private static void digest() {
        CHECK.sentence(41, "h = 1667; h = 31 h + v: of nothing, of all that there is room for (beyond a long's end)",
            "digest() = -7914492836094417314",
            EdgeParishTest.full() + "digest() = 7885414408615976560");
        CHECK.sentence(41, "hung (1, 0); LAPSED; THE FRACTION", """
            flitch(0, 0, 2) | family(0, 1, 0, 1) | mornings(0, 1, 3) | days(1) = 1 | outs(0) = 0 | type(0) = 1
            digest() = 3289789639854478313 | type(128) = BAD | digest() = 3289789639854478313
            """);
        CHECK.sentence(41, "what is gone is not in it", """
            digest() = -7914492836094417314 | flitch(3, 4, 5) | family(1, 1, 1, 1) | seen(0, 1, 1) | mark(0, 1, 2, 3)
            note(0, 1, 2, 3, 4) | turnip(0) | type(65) | parish() = 1 | clear() = 1 | digest() = -7914492836094417314
            image(0) | days(0) = BAD | undo() = NO | digest() = -7914492836094417314
            """);
    }

    public static void main(String[] args) {
        part();
        image();
        from();
        status();
        lastCall();
        count();
        digest();
        CHECK.end("EdgeKeepTest");
    }
}
