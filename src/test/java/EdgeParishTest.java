/** The edges of promises 1 to 6: a new object, a parish emptied, flitches, families and bytes coming. */
public final class EdgeParishTest {

    private static final Check CHECK = new Check();

    private static final String ALL_AS_AT_FIRST = """
        count(0) = 0 | count(1) = 0 | count(2) = 0 | count(3) = 0 | count(4) = 0 | count(5) = 0 | count(6) = 0
        count(7) = 0 | count(8) = 0 | count(9) = 0
        """;

    private static void newObject() {
        CHECK.sentence(1, "as told: DAYS 0 at first, THE FRACTION 0 by 1, nothing to undo, no IMAGE", ALL_AS_AT_FIRST
            + "count(10) = 0 | part(0) = 0 | part(1) = 1 | status(0) = 0 | status(1) = 0 | status(2) = 0\n"
            + "digest() = -7914492836094417314 | undo() = NO | from(0) = NO | from(1) = NO | status(1) = 3");
        CHECK.sentence(1, "nobody is there", """
            of(0, 0) = BAD | about(0, 0) = BAD | goes(0, 0) = BAD | turnip(0) = BAD | outs(0) = BAD
            then(0, 0) = BAD | when(0) = BAD | home(0) = BAD | seen(0, 0, 0) = BAD | wills(0, 0) = BAD
            note(0, 1, 0, 0, 0) = BAD | mark(0, 0, 0, 0) = BAD | is(0) = BAD | look(0) = BAD | kinds(0) = BAD
            ask(0) = BAD | brothers(0, 1) = BAD | mornings(0, 0, 0) = BAD | marry(0) = -10 BAD
            status(0) = 19
            """, """
            parish() = 0 | clear() = 0 | read() = -10 | forget(0) = 0 | forget(1) = 0 | forget(2) = 0
            right() = NONE | ends(0) = 0 | ends(1) = NONE | marry(-1) = 0 | quiet(1) = 0 | quiet(60) = 0
            years(0, 60) = 0 | smell(0, 0) = 0 | smell(24, 60) = 0 | way(0, 24, -2) = 0 | way(0, 24, -3) = 8
            days(60) = 0 | count(4) = 60 | count(9) = 1 | undo() = 0 | image(0) = 1 | from(0) = 1
            """);
    }

    private static void parish() {
        CHECK.sentence(2, "how many FAMILIES there were: none, one, all that there is room for",
            "parish() = 0 | parish() = 0 | family(0, 0, 0, 1) = 0 | parish() = 1 | parish() = 0\n"
                + "7 x family(0, 0, 0, 1) | parish() = 7 | parish() = 0 | 2 x flitch(0, 0, 1) | parish() = 0");
        CHECK.sentence(2, "all as at first", full() + "days(2) | outs(0) | turnip(6) | goes(6, 1) | parish() = 7\n"
            + ALL_AS_AT_FIRST + """
            smell(0, 0) = 0 | right() = NONE | undo() = NO | of(0, 0) = BAD | about(0, 0) = BAD
            flitch(0, 0, 9) = 0 | about(0, 3) = 1 | smell(0, 1) = 9 | family(0, 1, 0, 5) = 0 | of(0, 4) = 0
            wills(0, 0) = 99 | is(0) = 63 | kinds(0) = 63 | seen(0, 1, 1) = 1 | note(0, 1, 0, 0, 0) = 1
            mark(0, 0, 0, 0) = 1
            """);
        CHECK.sentence(2, "but for IMAGES, THE TEXT, THE FRACTION, STATUS", """
            family(0, 0, 0, 1) | flitch(0, 0, 2) | image(1) = 1 | mornings(0, 1, 3) = 1 | days(61) = BAD
            undo() = NO | 3 x seen(0, 0, 0) | 2 x seen(0, 0, 0) | seen(0, 0, 0) = FULL
            text parish;days 2;
            parish() = 1 | count(10) = 14 | part(0) = 7 | part(1) = 10
            status(0) = 1 | status(1) = 1 | status(2) = 1
            from(0) = NO | from(1) = 1 | count(0) = 1 | count(6) = 0 | read() = 2 | count(4) = 2
            """);
    }

    /** All that there is room for: 3 flitches, 7 families, 5 seen, 6 notes, 6 marks. */
    static String full() {
        return """
            flitch(0, 0, 20) | flitch(5, 24, 1) | flitch(2, 12, 7)
            family(0, 0, 0, 99) | family(1, 1, 24, 1) | family(2, 0, 12, 50) | family(3, 1, 3, 20)
            family(4, 0, 20, 7) | family(5, 1, 6, 99) | family(0, 0, 23, 64)
            5 x seen(1, 60, 1) | 6 x note(2, 20, 8, 99, 60) | 6 x mark(6, 60, 99, 40)
            """;
    }

    private static void flitch() {
        CHECK.sentence(3, "KINDS of FLITCHES 0 .. 5", """
            flitch(-1, 0, 1) = BAD | flitch(6, 0, 1) = BAD | flitch(MIN, 0, 1) = BAD | flitch(MAX, 0, 1) = BAD
            flitch(0, 0, 1) = 0 | flitch(5, 0, 1) = 1 | about(0, 0) = 0 | about(1, 0) = 5 | count(1) = 2
            """);
        CHECK.sentence(3, "a CELL (0 .. 24)", """
            flitch(0, -1, 1) = BAD | flitch(0, 25, 1) = BAD | flitch(0, MIN, 1) = BAD | flitch(0, MAX, 1) = BAD
            flitch(0, 0, 1) = 0 | flitch(0, 24, 1) = 1 | about(0, 1) = 0 | about(1, 1) = 24 | count(1) = 2
            """);
        CHECK.sentence(3, "a STRENGTH (1 .. 20)", """
            flitch(0, 0, 0) = BAD | flitch(0, 0, 21) = BAD | flitch(0, 0, MIN) = BAD | flitch(0, 0, MAX) = BAD
            flitch(0, 0, -1) = BAD | flitch(0, 0, 1) = 0 | flitch(0, 0, 20) = 1
            about(0, 2) = 1 | about(1, 2) = 20 | count(1) = 2
            """);
        CHECK.sentence(3, "hung at first", """
            count(2) = 0 | flitch(0, 0, 1) = 0 | about(0, 3) = 1 | count(2) = 1
            outs(0) = 0 | flitch(0, 0, 1) = 1 | about(0, 3) = 0 | about(1, 3) = 1 | count(2) = 1
            parish() = 0 | flitch(0, 0, 1) = 0 | about(0, 3) = 1
            """);
        CHECK.sentence(3, "FULL: 3", """
            flitch(0, 0, 1) = 0 | flitch(1, 1, 2) = 1 | flitch(2, 2, 3) = 2
            flitch(3, 3, 4) = FULL | flitch(0, 0, 1) = FULL | status(2) = 2 | count(1) = 3 | about(3, 0) = BAD
            about(0, 0) = 0 | about(1, 1) = 1 | about(2, 2) = 3 | parish() = 0 | flitch(0, 0, 1) = 0
            """);
        CHECK.sentence(3, "the first of: BAD, FULL; one call is refused once", """
            3 x flitch(0, 0, 1)
            flitch(6, 0, 1) = BAD | flitch(0, 25, 1) = BAD | flitch(0, 0, 21) = BAD | flitch(6, 25, 21) = BAD
            status(0) = 4 | status(2) = 0
            """);
        CHECK.sentence(3, "behind a FLITCH that comes none may be undone", """
            days(1) | count(9) = 1 | flitch(0, 0, 1) = 0 | count(9) = 0 | undo() = NO | count(4) = 1
            outs(0) | flitch(6, 0, 1) = BAD | count(9) = 1 | 2 x flitch(0, 0, 1) | outs(2) | count(9) = 1
            flitch(0, 0, 1) = FULL | count(9) = 1 | undo() = 1
            """);
    }

    private static void family() {
        CHECK.sentence(4, "KINDS of FAMILIES 0 .. 5", """
            family(-1, 0, 0, 1) = BAD | family(6, 0, 0, 1) = BAD | family(MIN, 0, 0, 1) = BAD
            family(MAX, 0, 0, 1) = BAD | family(0, 0, 0, 1) = 0 | family(5, 0, 0, 1) = 1
            of(0, 0) = 0 | of(1, 0) = 5 | count(0) = 2
            """);
        CHECK.sentence(4, "a SIDE (0, 1)", """
            family(0, -1, 0, 1) = BAD | family(0, 2, 0, 1) = BAD | family(0, MIN, 0, 1) = BAD
            family(0, MAX, 0, 1) = BAD | family(0, 0, 0, 1) = 0 | family(0, 1, 0, 1) = 1
            of(0, 1) = 0 | of(1, 1) = 1 | count(0) = 2
            """);
        CHECK.sentence(4, "a CELL (0 .. 24)", """
            family(0, 0, -1, 1) = BAD | family(0, 0, 25, 1) = BAD | family(0, 0, MIN, 1) = BAD
            family(0, 0, MAX, 1) = BAD | family(0, 0, 0, 1) = 0 | family(0, 0, 24, 1) = 1
            of(0, 2) = 0 | of(1, 2) = 24 | count(0) = 2
            """);
        CHECK.sentence(4, "WILL (1 .. 99)", """
            family(0, 0, 0, 0) = BAD | family(0, 0, 0, 100) = BAD | family(0, 0, 0, MIN) = BAD
            family(0, 0, 0, MAX) = BAD | family(0, 0, 0, -1) = BAD | family(0, 0, 0, 1) = 0
            family(0, 0, 0, 99) = 1 | of(0, 3) = 1 | of(1, 3) = 99 | count(0) = 2 | count(5) = 100
            """);
        CHECK.sentence(4, "LAPSED or not (not at first)", """
            family(0, 0, 0, 1) = 0 | of(0, 4) = 0 | flitch(0, 0, 2) | days(1) = 1 | of(0, 4) = 1
            family(0, 0, 0, 1) = 1 | of(1, 4) = 0 | of(0, 4) = 1 | count(3) = 1
            parish() = 2 | family(0, 0, 0, 1) = 0 | of(0, 4) = 0 | count(3) = 0
            """);
        CHECK.sentence(4, "FULL: 7", """
            family(0, 0, 0, 1) = 0 | family(1, 1, 1, 2) = 1 | family(2, 0, 2, 3) = 2 | family(3, 1, 3, 4) = 3
            family(4, 0, 4, 5) = 4 | family(5, 1, 5, 6) = 5 | family(0, 0, 6, 7) = 6
            family(0, 0, 0, 1) = FULL | family(5, 1, 24, 99) = FULL | status(2) = 2 | count(0) = 7
            of(7, 0) = BAD | of(6, 2) = 6 | count(5) = 28 | parish() = 7 | family(0, 0, 0, 1) = 0
            """);
        CHECK.sentence(4, "the first of: BAD, FULL; one call is refused once", """
            7 x family(0, 0, 0, 1)
            family(6, 0, 0, 1) = BAD | family(0, 2, 0, 1) = BAD | family(0, 0, 25, 1) = BAD
            family(0, 0, 0, 100) = BAD | family(6, 2, 25, 100) = BAD | status(0) = 5 | status(2) = 0
            """);
        CHECK.sentence(4, "behind a FAMILY that comes none may be undone", """
            days(1) | count(9) = 1 | family(0, 0, 0, 1) = 0 | count(9) = 0 | undo() = NO | count(4) = 1
            goes(0, 1) | family(6, 0, 0, 1) = BAD | count(9) = 1 | 6 x family(0, 0, 0, 1) | goes(6, 1)
            family(0, 0, 0, 1) = FULL | count(9) = 1 | undo() = 1 | of(6, 2) = 0
            """);
    }

    private static void type() {
        CHECK.sentence(5, "a byte (0 .. 127)", """
            type(-1) = BAD | type(128) = BAD | type(MIN) = BAD | type(MAX) = BAD | type(255) = BAD | type(256) = BAD
            count(10) = 0 | type(0) = 1 | type(127) = 2 | count(10) = 2 | read() = -10
            """);
        CHECK.sentence(5, "THE TEXT (150 bytes at most)", """
            149 x type(32) | count(10) = 149 | type(32) = 150 | type(32) = FULL | type(59) = FULL | count(10) = 150
            status(2) = 2 | read() = -160 | clear() = 150 | type(32) = 1
            """);
        CHECK.sentence(5, "the first of: BAD, FULL",
            "150 x type(32) | type(128) = BAD | type(-1) = BAD | status(0) = 2 | status(2) = 0 | type(0) = FULL");
        CHECK.sentence(5, "comes behind THE TEXT", """
            text paris
            type(104) = 6 | type(59) = 7 | read() = 1 | type(59) = 8 | read() = -17
            """);
    }

    private static void clear() {
        CHECK.sentence(6, "THE TEXT is empty: how many it had: none, one, all that there is room for",
            "clear() = 0 | clear() = 0 | type(112) = 1 | clear() = 1 | count(10) = 0 | clear() = 0\n"
                + "150 x type(32) | type(32) = FULL | clear() = 150 | count(10) = 0 | read() = -10 | type(32) = 1");
        CHECK.sentence(6, "nothing else is changed", """
            family(0, 0, 0, 9) | flitch(0, 0, 2) | days(3) | mornings(0, 1, 5)
            text parish;
            clear() = 7 | of(0, 3) = 6 | count(4) = 3 | count(9) = 1 | undo() = 0 | of(0, 3) = 9
            """);
    }

    public static void main(String[] args) {
        newObject();
        parish();
        flitch();
        family();
        type();
        clear();
        CHECK.end("EdgeParishTest");
    }
}
