/** The edges of promises 8 to 14: days, going, turnips, flitches put out, undoing, and what there is of each. */
public final class EdgeDaysTest {

    private static final Check CHECK = new Check();

    /** A flitch that takes 2 a day off plain families in cell 0 and nothing in the others. */
    private static final String SMELLING = "flitch(0, 0, 4)\n";

    private static void days() {
        CHECK.sentence(8, "n DAYS go by (1 .. 60)", """
            days(0) = BAD | days(-1) = BAD | days(61) = BAD | days(MIN) = BAD | days(MAX) = BAD | count(4) = 0
            count(9) = 0 | days(1) = 0 | count(4) = 1 | days(60) = 0 | count(4) = 61 | days(59) = 0 | count(4) = 120
            """);
        CHECK.sentence(8, "together one that may be undone", """
            family(0, 0, 0, 99) | flitch(0, 0, 2) | days(60) = 0 | count(9) = 1 | of(0, 3) = 39 | undo() = 0
            of(0, 3) = 99 | count(9) = 0 | undo() = NO | days(1) = 0 | days(1) = 0 | count(9) = 2 | undo() = 1
            """);
        CHECK.sentence(8, "DAYS have numbers (9999 at most); at 9999 none go by", """
            166 x days(60) | days(38) | count(4) = 9998 | family(0, 0, 0, 9) | flitch(0, 0, 2)
            days(1) = 0 | count(4) = 9999 | of(0, 3) = 8 | days(1) = 0 | count(4) = 9999 | of(0, 3) = 8
            days(60) = 0 | count(4) = 9999 | of(0, 3) = 8 | days(61) = BAD | days(0) = BAD
            """, """
            166 x days(60) | family(0, 0, 0, 99) | flitch(0, 0, 2)
            days(39) = 0 | count(4) = 9999 | of(0, 3) = 60 | undo() = 9960
            days(40) = 0 | count(4) = 9999 | of(0, 3) = 60 | undo() = 9960 | of(0, 3) = 99
            days(60) = 0 | count(4) = 9999 | of(0, 3) = 60 | count(9) = 1 | undo() = 9960 | count(9) = 0
            """, """
            166 x days(60) | days(39) | count(4) = 9999 | count(9) = 8 | family(3, 0, 0, 7) | family(0, 1, 0, 1)
            flitch(0, 0, 2) | days(60) = 0 | of(0, 3) = 7 | of(1, 3) = 1 | of(1, 4) = 0 | when(1) = 1
            """);
        // A reading, see NOTES.md: the call is one that may be undone, though no day goes by.
        CHECK.sentence(8, "at 9999 none go by, the call is one that may be undone all the same", """
            166 x days(60) | days(39) | family(0, 0, 0, 5) | count(9) = 0 | days(1) = 0 | count(9) = 1 | days(60) = 0
            count(9) = 2 | undo() = 9999 | undo() = 9999 | undo() = NO | count(4) = 9999
            """);
    }

    private static void oneDay() {
        CHECK.sentence(8, "if less than 1 is left, it is LAPSED, WILL is 0", SMELLING + """
            family(0, 0, 0, 3) | family(0, 0, 0, 2) | family(0, 0, 0, 1) | days(1) = 2
            of(0, 3) = 1 | of(0, 4) = 0 | of(1, 3) = 0 | of(1, 4) = 1 | of(2, 3) = 0 | of(2, 4) = 1 | count(5) = 1
            """);
        CHECK.sentence(8, "of each FAMILY that has not LAPSED so much WILL is taken off", SMELLING + """
            family(0, 0, 0, 1) | family(3, 1, 0, 1) | family(4, 0, 0, 99) | days(60) = 3 | days(60) = 3
            of(0, 3) = 0 | of(1, 3) = 0 | of(2, 3) = 0 | of(0, 5) = 0 | of(1, 5) = 0 | of(2, 5) = 0
            """);
        CHECK.sentence(8, "by the SMELL where it lives", SMELLING + """
            family(0, 0, 0, 9) | family(0, 0, 1, 9) | family(0, 0, 2, 9) | days(1) = 0
            of(0, 3) = 7 | of(1, 3) = 8 | of(2, 3) = 9 | goes(2, 0) | outs(0) | days(9) = 0 | of(2, 3) = 9
            outs(0) = 1 | days(1) | of(2, 3) = 7 | of(0, 3) = 5
            """);
        CHECK.sentence(8, "the DAY is one more: what is taken goes by the DAY ahead of that", """
            flitch(2, 0, 2) | family(0, 0, 0, 99) | days(1) | of(0, 3) = 96 | days(6) | of(0, 3) = 90
            days(1) | of(0, 3) = 87 | count(4) = 8
            """, """
            family(3, 0, 0, 99) | days(1) | of(0, 3) = 93 | days(12) | of(0, 3) = 93 | days(1) | of(0, 3) = 87
            """, """
            family(4, 0, 0, 99) | days(20) | of(0, 3) = 99 | days(1) | of(0, 3) = 98
            """);
        CHECK.sentence(8, "how many have LAPSED: none, some, all, also ahead of them", SMELLING + """
            family(0, 0, 0, 2) | family(0, 1, 0, 4) | family(0, 0, 0, 6) | days(1) = 1 | days(1) = 2
            family(0, 0, 24, 1) | days(1) = 3 | days(60) = 3 | count(3) = 3
            """);
    }

    private static void goes() {
        CHECK.sentence(9, "a FAMILY (0 .. 6, as they come)", """
            goes(0, 1) = BAD | family(0, 0, 0, 1) | goes(1, 1) = BAD | goes(-1, 1) = BAD | goes(MIN, 1) = BAD
            goes(MAX, 1) = BAD | goes(0, 1) = 0 | 6 x family(0, 0, 3, 1) | goes(6, 4) = 3 | goes(7, 4) = BAD
            """);
        CHECK.sentence(9, "a CELL (0 .. 24)", """
            family(0, 0, 12, 1) | goes(0, -1) = BAD | goes(0, 25) = BAD | goes(0, MIN) = BAD | goes(0, MAX) = BAD
            of(0, 2) = 12 | count(9) = 0 | goes(0, 0) = 12 | goes(0, 24) = 0 | of(0, 2) = 24 | count(9) = 2
            """);
        CHECK.sentence(9, "NO: it lives there", """
            family(0, 0, 0, 9) | family(0, 0, 24, 9) | goes(0, 0) = NO | goes(1, 24) = NO | count(9) = 0
            goes(0, 24) = 0 | goes(0, 24) = NO | count(9) = 1 | undo() = 0 | goes(0, 0) = NO | status(1) = 4
            """);
        CHECK.sentence(9, "the first of: BAD, NO", """
            family(0, 0, 0, 9) | goes(1, 0) = BAD | goes(0, 25) = BAD | goes(1, 25) = BAD
            status(0) = 3 | status(1) = 0
            """);
        CHECK.sentence(9, "a FAMILY that has LAPSED goes, too", SMELLING + """
            family(0, 0, 0, 1) | days(1) = 1 | goes(0, 24) = 0 | of(0, 2) = 24 | of(0, 3) = 0 | of(0, 4) = 1
            """);
    }

    private static void turnip() {
        CHECK.sentence(10, "a TURNIP: WILL is 3 more (99 at most)", """
            family(0, 0, 0, 1) | family(0, 0, 0, 95) | family(0, 0, 0, 96) | family(0, 0, 0, 97)
            family(0, 0, 0, 98) | family(0, 0, 0, 99)
            turnip(0) = 4 | turnip(1) = 98 | turnip(2) = 99 | turnip(3) = 99 | turnip(4) = 99 | turnip(5) = 99
            of(5, 3) = 99 | count(5) = 498 | count(9) = 6 | undo() = 0 | undo() = 0 | of(4, 3) = 98
            """);
        CHECK.sentence(10, "BAD: a FAMILY that is not there", """
            turnip(0) = BAD | family(0, 0, 0, 5) | turnip(1) = BAD | turnip(-1) = BAD | turnip(MIN) = BAD
            turnip(MAX) = BAD | turnip(0) = 8 | 6 x family(0, 0, 0, 5) | turnip(6) = 8 | turnip(7) = BAD
            """);
        CHECK.sentence(10, "NO: it has LAPSED", SMELLING + """
            family(0, 0, 0, 3) | family(0, 0, 0, 2) | days(1) = 1 | turnip(1) = NO | turnip(0) = 4 | of(1, 3) = 0
            status(1) = 1 | count(9) = 2 | undo() = 1 | undo() = 0 | turnip(1) = 5
            """);
    }

    private static void outs() {
        CHECK.sentence(11, "a FLITCH (0 .. 2, as they come)", """
            outs(0) = BAD | flitch(0, 0, 1) | outs(1) = BAD | outs(-1) = BAD | outs(MIN) = BAD | outs(MAX) = BAD
            count(9) = 0 | outs(0) = 0 | flitch(0, 0, 1) | outs(1) = 0 | outs(2) = BAD | flitch(0, 0, 1)
            outs(2) = 0 | outs(3) = BAD | count(2) = 0 | outs(0) = 1 | outs(1) = 1 | outs(2) = 1 | count(2) = 3
            """);
        CHECK.sentence(11, "put out, or hung: 1 hung then, 0", """
            flitch(0, 0, 5) | flitch(0, 0, 9) | smell(0, 0) = 14 | outs(1) = 0 | smell(0, 0) = 5 | outs(1) = 1
            smell(0, 0) = 14 | outs(0) = 0 | smell(0, 0) = 9 | about(0, 3) = 0 | about(1, 3) = 1 | count(9) = 3
            """);
    }

    private static void undo() {
        CHECK.sentence(12, "NO: none may be", """
            undo() = NO | days(1) | undo() = 0 | undo() = NO | status(1) = 2 | count(9) = 0 | count(4) = 0
            """);
        CHECK.sentence(12, "8 at most", """
            family(0, 0, 0, 1)
            7 x turnip(0) | count(9) = 7 | turnip(0) = 25 | count(9) = 8 | turnip(0) = 28 | count(9) = 8
            turnip(0) = 31 | count(9) = 8 | undo() = 0 | of(0, 3) = 28 | count(9) = 7 | undo() = 0 | of(0, 3) = 25
            undo() = 0 | of(0, 3) = 22 | undo() = 0 | of(0, 3) = 19 | undo() = 0 | of(0, 3) = 16 | undo() = 0
            of(0, 3) = 13 | undo() = 0 | of(0, 3) = 10 | count(9) = 1 | undo() = 0 | of(0, 3) = 7 | count(9) = 0
            undo() = NO | of(0, 3) = 7
            """, """
            days(1) | days(2) | days(3) | days(4) | days(5) | days(6) | days(7) | days(8) | count(9) = 8
            undo() = 28 | undo() = 21 | undo() = 15 | undo() = 10 | undo() = 6 | undo() = 3 | undo() = 1 | undo() = 0
            undo() = NO
            """);
        CHECK.sentence(12, "WILLS, who has LAPSED, where FAMILIES live, what is hung, the DAY as ahead of it",
            SMELLING + """
            family(0, 0, 0, 3) | family(0, 1, 0, 2) | flitch(1, 24, 3)
            days(1) = 1 | right() = 0 | undo() = 0 | of(0, 3) = 3 | of(1, 3) = 2 | of(1, 4) = 0 | right() = NONE
            goes(1, 24) = 0 | undo() = 0 | of(1, 2) = 0 | turnip(0) = 6 | undo() = 0 | of(0, 3) = 3
            outs(1) = 0 | undo() = 0 | about(1, 3) = 1 | outs(0) = 0 | outs(0) = 1 | undo() = 0 | about(0, 3) = 0
            undo() = 0 | about(0, 3) = 1 | undo() = NO
            """);
        CHECK.sentence(12, "of all seven, one as the other", """
            3 x flitch(0, 12, 9) | family(0, 0, 12, 90) | family(0, 0, 13, 91) | family(0, 0, 14, 92)
            family(0, 0, 17, 93) | family(0, 0, 18, 94) | family(0, 0, 19, 95) | family(0, 0, 7, 96)
            days(3) | undo() = 0 | of(0, 3) = 90 | of(1, 3) = 91 | of(2, 3) = 92 | of(3, 3) = 93 | of(4, 3) = 94
            of(5, 3) = 95 | of(6, 3) = 96 | goes(0, 1) | goes(6, 0) | undo() = 0 | of(6, 2) = 7 | of(0, 2) = 1
            """);
        CHECK.sentence(12, "what is refused or only asked may not be undone", """
            flitch(0, 0, 1) | family(0, 0, 0, 1) | goes(0, 0) = NO | goes(0, 25) = BAD | days(0) = BAD
            turnip(1) = BAD | outs(1) = BAD | when(0) | quiet(1) | mornings(0, 6, 5) | years(1, 60) | count(9) = 0
            seen(0, 0, 0) | note(0, 1, 0, 0, 1) | mark(0, 1, 0, 0) | forget(0) = 1 | type(65) | clear() = 1
            image(0) | count(9) = 0 | undo() = NO
            """);
        CHECK.sentence(12, "SEEN, NOTES, MARKS, THE TEXT, THE FRACTION, IMAGES are not undone", """
            flitch(0, 0, 2) | family(0, 0, 0, 1) | days(1) = 1 | seen(0, 0, 0) | note(0, 1, 0, 0, 1)
            mark(0, 1, 0, 0) | type(65) | image(1) | undo() = 0 | mornings(0, 1, 2) | turnip(0) | undo() = 0
            count(6) = 1 | count(7) = 1 | count(8) = 1 | count(10) = 1 | part(0) = 4 | part(1) = 5
            from(1) = 1 | count(3) = 1 | count(9) = 1
            """);
        CHECK.sentence(12, "undoing is not undone", """
            family(0, 0, 0, 1) | turnip(0) = 4 | turnip(0) = 7 | undo() = 0 | of(0, 3) = 4 | undo() = 0
            of(0, 3) = 1 | undo() = NO | turnip(0) = 4 | count(9) = 1
            """);
    }

    private static void facts() {
        CHECK.sentence(13, "of what: KIND (0) to TAKES (5)", """
            flitch(0, 13, 9) | family(4, 1, 13, 57) | of(0, -1) = BAD | of(0, 6) = BAD | of(0, MIN) = BAD
            of(0, MAX) = BAD | of(0, 0) = 4 | of(0, 1) = 1 | of(0, 2) = 13 | of(0, 3) = 57 | of(0, 4) = 0
            of(0, 5) = 4
            """);
        CHECK.sentence(13, "of whom: FAMILIES 0 .. 6, as they come", """
            of(0, 0) = BAD | family(1, 0, 0, 1) | of(0, 0) = 1 | of(1, 0) = BAD | of(-1, 0) = BAD | of(MIN, 0) = BAD
            of(MAX, 0) = BAD | 6 x family(2, 0, 0, 1) | of(6, 0) = 2 | of(7, 0) = BAD | of(7, 6) = BAD
            status(0) = 7
            """);
        CHECK.sentence(13, "TAKES (LAPSED: 0)", """
            flitch(0, 0, 20) | family(5, 0, 0, 1) | family(3, 0, 0, 1) | family(4, 0, 0, 1)
            of(0, 5) = 9 | of(1, 5) = 6 | of(2, 5) = 10 | days(26) = 3 | count(4) = 26
            of(0, 5) = 0 | of(1, 5) = 0 | of(2, 5) = 0 | undo() = 0 | of(0, 5) = 9
            """);
        CHECK.sentence(14, "about what: KIND (0) to hung (3)", """
            flitch(4, 23, 17) | about(0, -1) = BAD | about(0, 4) = BAD | about(0, MIN) = BAD | about(0, MAX) = BAD
            about(0, 0) = 4 | about(0, 1) = 23 | about(0, 2) = 17 | about(0, 3) = 1 | outs(0) | about(0, 3) = 0
            """);
        CHECK.sentence(14, "about which: FLITCHES 0 .. 2, as they come", """
            about(0, 0) = BAD | flitch(1, 0, 1) | about(0, 0) = 1 | about(1, 0) = BAD | about(-1, 0) = BAD
            about(MIN, 0) = BAD | about(MAX, 0) = BAD | flitch(2, 0, 1) | flitch(3, 0, 1) | about(2, 0) = 3
            about(3, 0) = BAD | about(3, 4) = BAD | status(0) = 7
            """);
    }

    public static void main(String[] args) {
        days();
        oneDay();
        goes();
        turnip();
        outs();
        undo();
        facts();
        CHECK.end("EdgeDaysTest");
    }
}
