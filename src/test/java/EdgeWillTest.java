/** The edges of promises 24 to 35: what was seen, noted, marked and follows; brothers, mornings, years. */
public final class EdgeWillTest {

    private static final Check CHECK = new Check();

    /** The last day, where nobody has lapsed and nothing has been smelt. */
    private static final String LAST_DAY = "166 x days(60) | days(39) | count(4) = 9999\n";

    private static void seen() {
        CHECK.sentence(24, "a FAMILY that is there", """
            seen(0, 0, 0) = BAD | family(0, 0, 0, 1) | seen(1, 0, 0) = BAD | seen(-1, 0, 0) = BAD
            seen(MIN, 0, 0) = BAD | seen(MAX, 0, 0) = BAD | count(6) = 0 | seen(0, 0, 0) = 1
            6 x family(0, 0, 0, 1) | seen(6, 0, 0) = 2 | seen(7, 0, 0) = BAD
            """);
        CHECK.sentence(24, "behind m (0 .. 60) DAYS", """
            family(0, 0, 0, 1) | seen(0, -1, 0) = BAD | seen(0, 61, 0) = BAD | seen(0, MIN, 0) = BAD
            seen(0, MAX, 0) = BAD | seen(0, 0, 0) = 1 | seen(0, 60, 0) = 2 | count(6) = 2
            """);
        CHECK.sentence(24, "LAPSED (1) or not (0)", """
            family(0, 0, 0, 1) | seen(0, 0, -1) = BAD | seen(0, 0, 2) = BAD | seen(0, 0, MIN) = BAD
            seen(0, 0, MAX) = BAD | seen(0, 0, 0) = 1 | seen(0, 0, 1) = 2 | count(6) = 2
            """);
        CHECK.sentence(24, "FULL: 5; the first of: BAD, FULL", """
            family(0, 0, 0, 1) | seen(0, 0, 0) = 1 | seen(0, 1, 0) = 2 | seen(0, 2, 0) = 3 | seen(0, 3, 0) = 4
            seen(0, 4, 0) = 5 | seen(0, 5, 0) = FULL | seen(0, 60, 1) = FULL | seen(1, 0, 0) = BAD
            seen(0, 61, 0) = BAD | seen(0, 0, 2) = BAD | seen(1, 61, 2) = BAD | count(6) = 5 | status(0) = 4
            status(2) = 2 | forget(0) = 5 | seen(0, 0, 0) = 1
            """);
        CHECK.sentence(24, "the same may come again; a FAMILY that has LAPSED, too", """
            flitch(0, 0, 2) | family(0, 0, 0, 1) | days(1) = 1 | 5 x seen(0, 7, 1) | count(6) = 5 | wills(0, 0) = 7
            """);
    }

    private static void wills() {
        CHECK.sentence(25, "how many (0), the least (1), the greatest (2)", """
            wills(0, 0) = BAD | family(0, 0, 0, 1) | wills(0, -1) = BAD | wills(0, 3) = BAD | wills(0, MIN) = BAD
            wills(0, MAX) = BAD | wills(1, 0) = BAD | wills(-1, 0) = BAD | wills(MIN, 0) = BAD | wills(MAX, 0) = BAD
            wills(0, 0) = 99 | wills(0, 1) = 1 | wills(0, 2) = 99 | 6 x family(0, 0, 0, 1) | wills(6, 0) = 99
            wills(7, 0) = BAD
            """);
        CHECK.sentence(25, "what WILL (1 .. 99) it may have: the least and the greatest alone", """
            flitch(0, 0, 2) | family(0, 0, 0, 50) | seen(0, 1, 1) = 1 | wills(0, 0) = 1 | wills(0, 1) = 1
            wills(0, 2) = 1 | forget(0) | seen(0, 1, 0) = 1 | wills(0, 0) = 98 | wills(0, 1) = 2 | wills(0, 2) = 99
            """, """
            flitch(0, 0, 14) | family(0, 0, 0, 50) | seen(0, 14, 0) = 1 | wills(0, 0) = 1 | wills(0, 1) = 99
            wills(0, 2) = 99 | forget(0) | seen(0, 14, 1) = 1 | wills(0, 0) = 98 | wills(0, 1) = 1 | wills(0, 2) = 98
            """, """
            flitch(0, 0, 18) | family(0, 0, 0, 50) | seen(0, 11, 1) = 1 | wills(0, 0) = 99 | wills(0, 1) = 1
            wills(0, 2) = 99 | seen(0, 10, 0) = 2 | wills(0, 0) = 9 | wills(0, 1) = 91
            """);
        CHECK.sentence(25, "NONE: none", """
            flitch(0, 0, 18) | family(0, 0, 0, 50) | seen(0, 11, 0) = 1 | wills(0, 0) = 0 | wills(0, 1) = NONE
            wills(0, 2) = NONE | status(0) = 0
            """, """
            flitch(0, 0, 2) | family(0, 0, 0, 50) | seen(0, 5, 1) | seen(0, 5, 0) | wills(0, 0) = 0 | wills(0, 1) = NONE
            """, """
            flitch(0, 0, 2) | family(0, 0, 0, 50) | seen(0, 6, 0) | seen(0, 5, 1) | wills(0, 0) = 0 | wills(0, 2) = NONE
            """);
        CHECK.sentence(25, "SEEN behind 0 DAYS, behind 60", """
            flitch(0, 0, 20) | family(0, 0, 0, 1) | seen(0, 0, 0) | wills(0, 0) = 99 | seen(0, 0, 1) | wills(0, 0) = 0
            """, """
            flitch(0, 0, 2) | family(0, 0, 0, 1) | seen(0, 60, 0) | wills(0, 0) = 39 | wills(0, 1) = 61
            forget(0) | seen(0, 60, 1) | wills(0, 0) = 60 | wills(0, 2) = 60
            """);
        CHECK.sentence(25, "all SEEN of it are so; those of others do not count", """
            flitch(0, 0, 2) | family(0, 0, 0, 1) | family(0, 0, 0, 1) | seen(1, 9, 1) | wills(0, 0) = 99
            wills(1, 0) = 9 | seen(0, 9, 0) | wills(0, 0) = 90 | wills(1, 0) = 9 | seen(1, 4, 0) | wills(1, 0) = 5
            wills(1, 1) = 5 | wills(1, 2) = 9 | seen(1, 8, 1) | seen(1, 5, 0) | wills(1, 0) = 3 | wills(1, 1) = 6
            """);
        CHECK.sentence(25, "now, as if it had not LAPSED, living where it does", """
            flitch(0, 0, 2) | family(0, 0, 0, 3) | seen(0, 9, 1) | wills(0, 0) = 9 | days(3) = 1 | wills(0, 0) = 9
            goes(0, 24) | wills(0, 0) = 0 | goes(0, 0) | wills(0, 2) = 9 | outs(0) | wills(0, 0) = 0
            """);
        CHECK.sentence(25, "DAYS go beyond 9999", LAST_DAY + """
            family(3, 0, 0, 9) | seen(0, 12, 1) | wills(0, 0) = 6 | seen(0, 11, 0) | wills(0, 0) = 6 | forget(0)
            seen(0, 11, 1) | wills(0, 0) = 0
            """);
    }

    private static void notes() {
        CHECK.sentence(26, "a FLITCH that is there", """
            note(0, 1, 0, 0, 0) = BAD | flitch(0, 0, 9) | note(1, 1, 0, 0, 0) = BAD | note(-1, 1, 0, 0, 0) = BAD
            note(MIN, 1, 0, 0, 0) = BAD | note(MAX, 1, 0, 0, 0) = BAD | note(0, 1, 0, 0, 0) = 1 | 2 x flitch(0, 0, 9)
            note(2, 1, 0, 0, 0) = 2 | note(3, 1, 0, 0, 0) = BAD
            """);
        CHECK.sentence(26, "STRENGTH s (1 .. 20)", """
            flitch(0, 0, 9) | note(0, 0, 0, 0, 0) = BAD | note(0, 21, 0, 0, 0) = BAD | note(0, MIN, 0, 0, 0) = BAD
            note(0, MAX, 0, 0, 0) = BAD | note(0, 1, 0, 0, 0) = 1 | note(0, 20, 0, 0, 0) = 2
            """);
        CHECK.sentence(26, "f (0 .. 8) off", """
            flitch(0, 0, 9) | note(0, 1, -1, 0, 0) = BAD | note(0, 1, 9, 0, 0) = BAD | note(0, 1, MIN, 0, 0) = BAD
            note(0, 1, MAX, 0, 0) = BAD | note(0, 1, 0, 0, 0) = 1 | note(0, 1, 8, 0, 0) = 2
            """);
        CHECK.sentence(26, "on DAY d (0 .. 99)", """
            flitch(0, 0, 9) | note(0, 1, 0, -1, 0) = BAD | note(0, 1, 0, 100, 0) = BAD | note(0, 1, 0, MIN, 0) = BAD
            note(0, 1, 0, MAX, 0) = BAD | note(0, 1, 0, 0, 0) = 1 | note(0, 1, 0, 99, 0) = 2
            """);
        CHECK.sentence(26, "SMELT by x (0 .. 60)", """
            flitch(0, 0, 9) | note(0, 1, 0, 0, -1) = BAD | note(0, 1, 0, 0, 61) = BAD | note(0, 1, 0, 0, MIN) = BAD
            note(0, 1, 0, 0, MAX) = BAD | note(0, 1, 0, 0, 0) = 1 | note(0, 1, 0, 0, 60) = 2
            """);
        CHECK.sentence(26, "FULL: 6; the first of: BAD, FULL", """
            flitch(0, 0, 9) | note(0, 1, 0, 0, 0) = 1 | 4 x note(0, 1, 0, 0, 0) | note(0, 1, 0, 0, 0) = 6
            note(0, 1, 0, 0, 0) = FULL | note(0, 20, 8, 99, 60) = FULL | note(1, 1, 0, 0, 0) = BAD
            note(0, 0, 0, 0, 0) = BAD | note(0, 1, 9, 0, 0) = BAD | note(0, 1, 0, 100, 0) = BAD
            note(0, 1, 0, 0, 61) = BAD | note(3, 21, 9, 100, 61) = BAD | count(7) = 6 | status(0) = 6 | status(2) = 2
            forget(1) = 6 | note(0, 1, 0, 0, 0) = 1
            """);
    }

    private static void marks() {
        CHECK.sentence(27, "a FAMILY that is there", """
            mark(0, 0, 0, 0) = BAD | family(0, 0, 0, 9) | mark(1, 0, 0, 0) = BAD | mark(-1, 0, 0, 0) = BAD
            mark(MIN, 0, 0, 0) = BAD | mark(MAX, 0, 0, 0) = BAD | mark(0, 0, 0, 0) = 1 | 6 x family(0, 0, 0, 9)
            mark(6, 0, 0, 0) = 2 | mark(7, 0, 0, 0) = BAD
            """);
        CHECK.sentence(27, "a SMELL of x (0 .. 60)", """
            family(0, 0, 0, 9) | mark(0, -1, 0, 0) = BAD | mark(0, 61, 0, 0) = BAD | mark(0, MIN, 0, 0) = BAD
            mark(0, MAX, 0, 0) = BAD | mark(0, 0, 0, 0) = 1 | mark(0, 60, 0, 0) = 2
            """);
        CHECK.sentence(27, "on DAY d (0 .. 99)", """
            family(0, 0, 0, 9) | mark(0, 0, -1, 0) = BAD | mark(0, 0, 100, 0) = BAD | mark(0, 0, MIN, 0) = BAD
            mark(0, 0, MAX, 0) = BAD | mark(0, 0, 0, 0) = 1 | mark(0, 0, 99, 0) = 2
            """);
        CHECK.sentence(27, "took y (0 .. 40)", """
            family(0, 0, 0, 9) | mark(0, 0, 0, -1) = BAD | mark(0, 0, 0, 41) = BAD | mark(0, 0, 0, MIN) = BAD
            mark(0, 0, 0, MAX) = BAD | mark(0, 0, 0, 0) = 1 | mark(0, 0, 0, 40) = 2
            """);
        CHECK.sentence(27, "FULL: 6; the first of: BAD, FULL", """
            family(0, 0, 0, 9) | mark(0, 0, 0, 0) = 1 | 4 x mark(0, 0, 0, 0) | mark(0, 0, 0, 0) = 6
            mark(0, 0, 0, 0) = FULL | mark(0, 60, 99, 40) = FULL | mark(1, 0, 0, 0) = BAD | mark(0, 61, 0, 0) = BAD
            mark(0, 0, 100, 0) = BAD | mark(0, 0, 0, 41) = BAD | mark(7, 61, 100, 41) = BAD | count(8) = 6
            status(0) = 5 | status(2) = 2 | forget(2) = 6 | mark(0, 0, 0, 0) = 1
            """);
    }

    private static void forget() {
        CHECK.sentence(28, "SEEN ones (0), NOTES (1), MARKS (2); BAD", """
            forget(-1) = BAD | forget(3) = BAD | forget(MIN) = BAD | forget(MAX) = BAD | forget(0) = 0
            forget(1) = 0 | forget(2) = 0
            """);
        CHECK.sentence(28, "how many there were: none, one, all that there is room for; the others stay",
            EdgeParishTest.full() + """
            count(6) = 5 | count(7) = 6 | count(8) = 6 | forget(0) = 5 | count(6) = 0 | count(7) = 6 | count(8) = 6
            forget(0) = 0 | forget(1) = 6 | count(7) = 0 | count(8) = 6 | forget(1) = 0 | forget(2) = 6 | count(8) = 0
            seen(0, 0, 0) = 1 | forget(0) = 1 | note(0, 1, 0, 0, 0) = 1 | forget(1) = 1 | mark(0, 0, 0, 0) = 1
            forget(2) = 1 | forget(2) = 0
            """);
        CHECK.sentence(28, "what follows from them is gone with them", """
            flitch(0, 0, 9) | family(0, 0, 0, 9) | seen(0, 0, 1) | note(0, 1, 0, 0, 60) | mark(0, 0, 0, 40)
            wills(0, 0) = 0 | is(0) = 0 | kinds(0) = 0 | forget(0) | wills(0, 0) = 99 | is(0) = 0 | forget(1)
            is(0) = 63 | kinds(0) = 0 | forget(2) | kinds(0) = 63
            """);
    }

    private static void is() {
        CHECK.sentence(29, "BAD: a FLITCH that is not there", """
            is(0) = BAD | flitch(0, 0, 9) | is(0) = 63 | is(1) = BAD | is(-1) = BAD | is(MIN) = BAD | is(MAX) = BAD
            2 x flitch(0, 0, 9) | is(2) = 63 | is(3) = BAD
            """);
        CHECK.sentence(29, "KINDS (bits) by which all NOTES of one are so: none noted, the ends of each number", """
            flitch(5, 0, 9) | is(0) = 63 | note(0, 1, 0, 1, 1) | is(0) = 53 | forget(1)
            note(0, 20, 8, 99, 4) | is(0) = 5 | forget(1) | note(0, 20, 8, 98, 9) | is(0) = 4 | forget(1)
            note(0, 1, 8, 1, 0) | is(0) = 31 | forget(1) | note(0, 20, 0, 0, 44) | is(0) = 8 | forget(1)
            note(0, 20, 0, 0, 60) | is(0) = 0
            """);
        CHECK.sentence(29, "all of one, six together; those of others do not count", """
            flitch(0, 0, 9) | flitch(0, 0, 9) | note(0, 7, 0, 1, 7) | is(0) = 37 | is(1) = 63 | note(0, 7, 0, 14, 12)
            is(0) = 36 | note(1, 7, 0, 1, 18) | is(1) = 8 | is(0) = 36 | note(0, 7, 1, 1, 4) | is(0) = 32
            note(0, 7, 1, 1, 4) | is(0) = 32 | note(0, 7, 1, 1, 5) | is(0) = 0 | is(1) = 8
            """);
        CHECK.sentence(30, "BAD: a FLITCH that is not there; none: no KIND", """
            look(0) = BAD | flitch(0, 0, 9) | look(0) = 10 | look(1) = BAD | look(-1) = BAD | look(MIN) = BAD
            look(MAX) = BAD | note(0, 1, 0, 0, 60) | look(0) = NONE | forget(1) | look(0) = 10 | 2 x flitch(0, 0, 9)
            look(2) = 10 | look(3) = BAD
            """);
        CHECK.sentence(30, "10 f and d by which the most that SMELL alike are fewest; of like ones the least", """
            flitch(0, 0, 1) | note(0, 3, 1, 7, 6) | is(0) = 12 | look(0) = 1 | note(0, 3, 1, 1, 1) | is(0) = 4
            look(0) = 0
            """, """
            flitch(0, 0, 3) | note(0, 1, 0, 0, 6) | is(0) = 44 | look(0) = 20
            """, """
            flitch(0, 0, 3) | note(0, 1, 0, 1, 1) | is(0) = 53 | look(0) = 0
            """, """
            flitch(0, 0, 20) | note(0, 1, 0, 0, 6) | is(0) = 44 | look(0) = 10 | forget(1) | note(0, 4, 1, 1, 2)
            is(0) = 5 | look(0) = 0
            """);
    }

    private static void kinds() {
        CHECK.sentence(31, "BAD: a FAMILY that is not there", """
            kinds(0) = BAD | family(0, 0, 0, 9) | kinds(0) = 63 | kinds(1) = BAD | kinds(-1) = BAD | kinds(MIN) = BAD
            kinds(MAX) = BAD | 6 x family(0, 0, 0, 9) | kinds(6) = 63 | kinds(7) = BAD
            """);
        CHECK.sentence(31, "KINDS of FAMILIES (bits) by which all MARKS of one are so: the ends of each number", """
            family(5, 0, 0, 9) | mark(0, 60, 99, 30) | kinds(0) = 1 | forget(2) | mark(0, 60, 99, 29) | kinds(0) = 10
            forget(2) | mark(0, 60, 99, 32) | kinds(0) = 4 | forget(2) | mark(0, 60, 99, 31) | kinds(0) = 16
            forget(2) | mark(0, 60, 99, 9) | kinds(0) = 32 | forget(2) | mark(0, 60, 91, 6) | kinds(0) = 8
            forget(2) | mark(0, 0, 0, 0) | kinds(0) = 55 | forget(2) | mark(0, 0, 0, 6) | kinds(0) = 8
            forget(2) | mark(0, 60, 99, 40) | kinds(0) = 0
            """);
        CHECK.sentence(31, "d is 20 or more, 13 divides d", """
            family(5, 0, 0, 9) | mark(0, 2, 19, 1) | kinds(0) = 17 | mark(0, 2, 20, 1) | kinds(0) = 1 | forget(2)
            mark(0, 2, 20, 2) | kinds(0) = 16 | forget(2) | mark(0, 4, 12, 1) | kinds(0) = 10 | mark(0, 4, 13, 1)
            kinds(0) = 2 | forget(2) | mark(0, 4, 13, 6) | kinds(0) = 8 | mark(0, 4, 14, 1) | kinds(0) = 8
            """);
        CHECK.sentence(31, "all of one, six together; those of others do not count", """
            family(0, 0, 0, 9) | family(0, 0, 0, 9) | mark(0, 7, 1, 3) | kinds(0) = 17 | kinds(1) = 63
            mark(1, 7, 1, 2) | kinds(1) = 10 | 3 x mark(0, 7, 1, 3) | kinds(0) = 17 | mark(0, 7, 20, 4) | kinds(0) = 16
            mark(0, 7, 1, 3) = FULL | kinds(1) = 10
            """);
        CHECK.sentence(32, "BAD: a FAMILY that is not there; none: no KIND", """
            ask(0) = BAD | family(0, 0, 0, 9) | ask(0) = 2 | ask(1) = BAD | ask(-1) = BAD | ask(MIN) = BAD
            ask(MAX) = BAD | mark(0, 0, 0, 40) | ask(0) = NONE | forget(2) | ask(0) = 2 | 6 x family(0, 0, 0, 9)
            ask(6) = 2 | ask(7) = BAD
            """);
        CHECK.sentence(32, "100 d and x by which the most that are taken alike are fewest; of like ones the least", """
            family(0, 0, 0, 9) | mark(0, 0, 20, 0) | kinds(0) = 47 | ask(0) = 4 | forget(2)
            mark(0, 18, 20, 9) | kinds(0) = 33 | ask(0) = 1 | forget(2) | mark(0, 1, 26, 0) | kinds(0) = 3 | ask(0) = 2
            forget(2) | mark(0, 2, 1, 0) | kinds(0) = 10 | ask(0) = 0 | forget(2) | mark(0, 2, 0, 1) | kinds(0) = 17
            ask(0) = 0 | mark(0, 2, 20, 1) | kinds(0) = 1 | ask(0) = 0
            """);
    }

    private static void brothers() {
        CHECK.sentence(33, "BAD: FAMILIES that are not there", """
            brothers(0, 1) = BAD | family(0, 0, 0, 9) | brothers(0, 1) = BAD | brothers(1, 0) = BAD
            family(0, 1, 0, 9) | brothers(-1, 1) = BAD | brothers(0, -1) = BAD | brothers(2, 1) = BAD
            brothers(0, 2) = BAD | brothers(MIN, 1) = BAD | brothers(0, MAX) = BAD | brothers(0, 1) = 14
            5 x family(0, 1, 0, 9) | brothers(0, 6) = 14 | brothers(0, 7) = BAD | brothers(6, 0) = 14
            """);
        CHECK.sentence(33, "NO: they are alike, one has LAPSED", """
            flitch(0, 0, 2) | family(0, 0, 24, 9) | family(0, 1, 0, 1) | family(0, 0, 0, 2) | family(0, 1, 24, 9)
            brothers(0, 0) = NO | brothers(0, 2) = NO | brothers(2, 0) = NO | brothers(1, 3) = NO
            brothers(0, 1) = 6 | days(1) = 1 | brothers(0, 1) = NO | brothers(1, 0) = NO | brothers(2, 1) = NO
            brothers(0, 3) = 14 | days(1) = 2 | brothers(2, 1) = NO | brothers(1, 3) = NO | undo() = 1 | undo() = 0
            brothers(0, 1) = 6 | status(1) = 9
            """);
        CHECK.sentence(33, "the first of: BAD, NO", """
            flitch(0, 0, 2) | family(0, 0, 0, 1) | days(1) = 1 | brothers(0, 1) = BAD | brothers(1, 0) = BAD
            brothers(0, 0) = NO | status(0) = 2 | status(1) = 1
            """);
        CHECK.sentence(33, "neither would get more by doing otherwise: 8, 9, 10 left", """
            family(0, 0, 0, 8) | family(0, 0, 0, 9) | family(0, 0, 0, 10) | family(0, 1, 0, 8) | family(0, 1, 0, 9)
            family(0, 1, 0, 10) | brothers(0, 3) = 6 | brothers(0, 4) = 6 | brothers(0, 5) = 4 | brothers(1, 3) = 6
            brothers(1, 4) = 14 | brothers(1, 5) = 12 | brothers(2, 3) = 2 | brothers(2, 4) = 10 | brothers(2, 5) = 8
            brothers(3, 0) = 6 | brothers(5, 0) = 2 | brothers(3, 2) = 4 | brothers(5, 1) = 10
            """);
        CHECK.sentence(33, "both hold: to each WILL now less what is taken off it today", """
            flitch(0, 0, 4) | family(0, 0, 0, 11) | family(0, 1, 24, 9) | brothers(0, 1) = 14 | goes(0, 24)
            brothers(0, 1) = 10 | goes(1, 0) | brothers(0, 1) = 2 | outs(0) | brothers(0, 1) = 10
            """, """
            flitch(2, 0, 1) | family(0, 0, 0, 12) | family(0, 1, 0, 99) | brothers(0, 1) = 12 | days(1)
            brothers(0, 1) = 12 | turnip(0) | brothers(0, 1) = 8 | count(4) = 1
            """, """
            flitch(0, 0, 20) | family(5, 0, 0, 1) | family(0, 1, 0, 1) | brothers(0, 1) = 6
            """);
    }

    private static void mornings() {
        CHECK.sentence(34, "BAD: a FAMILY that is not there; n (0 .. 6); c of 10 (0 .. 10)", """
            mornings(0, 0, 0) = BAD | flitch(0, 0, 2) | family(0, 0, 0, 1) | mornings(0, 1, 4) = 1 | part(0) = 3
            mornings(1, 0, 0) = BAD | mornings(-1, 0, 0) = BAD | mornings(MIN, 0, 0) = BAD | mornings(MAX, 0, 0) = BAD
            mornings(0, -1, 0) = BAD | mornings(0, 7, 0) = BAD | mornings(0, MIN, 0) = BAD | mornings(0, MAX, 0) = BAD
            mornings(0, 0, -1) = BAD | mornings(0, 0, 11) = BAD | mornings(0, 0, MIN) = BAD | mornings(0, 0, MAX) = BAD
            part(0) = 3 | part(1) = 5 | mornings(0, 0, 0) = 1 | part(0) = 0 | part(1) = 1 | mornings(0, 6, 10) = 1
            part(0) = 0 | part(1) = 1 | 6 x family(0, 0, 0, 1) | mornings(6, 6, 0) = 1 | part(0) = 1 | part(1) = 1
            mornings(7, 0, 0) = BAD
            """);
        CHECK.sentence(34, "nothing SMELLS by c of 10 in each of the n DAYS, apart", """
            flitch(0, 0, 2) | family(0, 0, 0, 1) | mornings(0, 6, 1) | part(0) = 999999 | part(1) = 1000000
            mornings(0, 6, 9) | part(0) = 468559 | part(1) = 1000000 | mornings(0, 6, 2) | part(0) = 15624
            part(1) = 15625 | mornings(0, 6, 5) | part(0) = 63 | part(1) = 64 | mornings(0, 1, 0) | part(0) = 1
            part(1) = 1 | mornings(0, 1, 10) | part(0) = 0 | part(1) = 1 | of(0, 3) = 1 | count(4) = 0
            """, """
            flitch(0, 0, 2) | family(0, 0, 0, 6) | mornings(0, 6, 9) | part(0) = 1 | part(1) = 1000000
            mornings(0, 6, 5) | part(0) = 1 | part(1) = 64 | mornings(0, 5, 0) | part(0) = 0 | part(1) = 1
            mornings(0, 6, 0) | part(0) = 1 | part(1) = 1 | turnip(0) | mornings(0, 6, 0) | part(0) = 0 | part(1) = 1
            """);
        CHECK.sentence(34, "nothing SMELLS: a smell of 0, not of 1", """
            flitch(0, 0, 1) | family(2, 0, 0, 6) | family(5, 0, 0, 8) | mornings(0, 6, 10) | part(0) = 0
            mornings(1, 6, 10) | part(0) = 0 | mornings(0, 3, 5) | part(0) = 1 | part(1) = 8 | mornings(1, 2, 5)
            part(0) = 1 | part(1) = 4 | mornings(0, 2, 0) | part(0) = 0 | mornings(1, 1, 0) | part(0) = 0
            """);
        CHECK.sentence(34, "has LAPSED behind them: behind none", """
            flitch(0, 0, 2) | family(0, 0, 0, 1) | mornings(0, 0, 0) | part(0) = 0 | part(1) = 1 | days(1) = 1
            mornings(0, 0, 10) | part(0) = 1 | part(1) = 1 | mornings(0, 6, 10) | part(0) = 1 | part(1) = 1
            """);
        CHECK.sentence(34, "a DAY on which nothing SMELLS is one all the same", """
            family(3, 0, 0, 6) | mornings(0, 1, 10) | part(0) = 1 | part(1) = 1 | mornings(0, 1, 3) | part(0) = 1
            """, """
            family(4, 0, 0, 1) | days(19) | mornings(0, 1, 10) | part(0) = 0 | mornings(0, 2, 10) | part(0) = 1
            """, """
            flitch(2, 0, 1) | family(0, 0, 0, 3) | mornings(0, 1, 4) | part(0) = 3 | part(1) = 5 | mornings(0, 6, 4)
            part(0) = 3 | part(1) = 5 | days(1) = 1 | undo() = 0 | goes(0, 24) | mornings(0, 6, 0) | part(0) = 0
            """);
        CHECK.sentence(34, "DAYS go beyond 9999", LAST_DAY + """
            flitch(2, 0, 1) | family(0, 0, 0, 3) | mornings(0, 4, 5) | part(0) = 0 | mornings(0, 5, 5) | part(0) = 1
            part(1) = 2 | count(4) = 9999
            """);
    }

    private static void years() {
        CHECK.sentence(35, "a SEED (0 .. 999999)", """
            years(-1, 0) = BAD | years(1000000, 0) = BAD | years(MIN, 0) = BAD | years(MAX, 0) = BAD | years(0, 0) = 0
            years(999999, 0) = 0 | years(0, 60) = 0 | years(999999, 60) = 0
            """);
        CHECK.sentence(35, "n (0 .. 60) DAYS", """
            flitch(0, 0, 2) | family(0, 0, 24, 1) | years(0, -1) = BAD | years(0, 61) = BAD | years(0, MIN) = BAD
            years(0, MAX) = BAD | years(0, 0) = 0 | years(0, 1) = 1 | years(0, 60) = 1 | years(1000000, 61) = BAD
            """);
        CHECK.sentence(35, "FAMILY X by 65536, by 7 left over (not there: nobody), goes to CELL X by 1048576, by 25", """
            flitch(0, 20, 2) | 2 x family(0, 0, 24, 1) | years(999999, 1) = 0 | family(0, 0, 24, 1)
            years(999999, 1) = 1 | years(999999, 0) = 0 | of(2, 2) = 24 | of(2, 4) = 0
            """, """
            flitch(0, 22, 2) | 4 x family(0, 0, 24, 1) | years(999999, 2) = 0 | family(0, 0, 24, 1)
            years(999999, 1) = 0 | years(999999, 2) = 1
            """, """
            flitch(0, 16, 2) | 6 x family(0, 0, 24, 1) | years(0, 2) = 0 | family(0, 0, 24, 1) | years(0, 1) = 0
            years(0, 2) = 1
            """);
        CHECK.sentence(35, "X by 65536 (cut), X by 1048576 (cut): just ahead of the next, just behind the last", """
            flitch(0, 15, 2) | family(0, 0, 24, 1) | years(5, 1) = 1
            """, """
            flitch(0, 9, 2) | 2 x family(0, 0, 24, 1) | years(3, 1) = 0 | family(0, 0, 24, 1) | years(3, 1) = 1
            """, """
            flitch(0, 12, 2) | family(0, 0, 24, 1) | years(822, 1) = 1 | parish() | flitch(0, 11, 2)
            family(0, 0, 24, 1) | years(822, 1) = 0
            """, """
            flitch(0, 7, 2) | 2 x family(0, 0, 24, 1) | years(3590, 1) = 1 | parish() | flitch(0, 8, 2)
            2 x family(0, 0, 24, 1) | years(3590, 1) = 0
            """);
        CHECK.sentence(35, "who does not go lives where he did", """
            flitch(0, 24, 2) | family(0, 0, 3, 2) | family(0, 0, 24, 2) | years(0, 1) = 0 | years(0, 2) = 1 | goes(0, 24)
            years(0, 2) = 1 | years(0, 60) | of(0, 2) = 24 | of(1, 2) = 24
            """);
        CHECK.sentence(35, "ahead of each DAY; how many have LAPSED behind them, also ahead of them", """
            flitch(0, 0, 4) | family(0, 0, 24, 4) | years(0, 1) = 0 | years(0, 2) = 1 | family(0, 1, 0, 2)
            days(1) = 1 | years(5, 0) = 1 | years(0, 1) = 1 | years(0, 2) = 2 | count(3) = 1 | of(0, 2) = 24
            """);
        CHECK.sentence(35, "DAYS go beyond 9999", LAST_DAY + """
            flitch(2, 0, 1) | family(0, 0, 24, 3) | years(0, 4) = 0 | years(0, 5) = 1 | count(4) = 9999
            """);
    }

    public static void main(String[] args) {
        seen();
        wills();
        notes();
        marks();
        forget();
        is();
        kinds();
        brothers();
        mornings();
        years();
        CHECK.end("EdgeWillTest");
    }
}
