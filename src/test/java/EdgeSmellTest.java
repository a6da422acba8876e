/** The edges of promises 15 to 23: smells, wills and lapses to come, ways, homes, quiet, marriages. */
public final class EdgeSmellTest {

    private static final Check CHECK = new Check();

    /** The last day, where nobody has lapsed and nothing has been smelt. */
    private static final String LAST_DAY = "166 x days(60) | days(39) | count(4) = 9999\n";

    private static void smell() {
        CHECK.sentence(15, "SMELL of a CELL (0 .. 24)", """
            flitch(0, 12, 20) | smell(-1, 0) = BAD | smell(25, 0) = BAD | smell(MIN, 0) = BAD | smell(MAX, 0) = BAD
            smell(0, 0) = 12 | smell(24, 0) = 12 | smell(4, 0) = 12 | smell(20, 0) = 12 | smell(12, 0) = 20
            """);
        CHECK.sentence(15, "behind m (0 .. 60) DAYS", """
            flitch(2, 0, 1) | smell(0, -1) = BAD | smell(0, 61) = BAD | smell(0, MIN) = BAD | smell(0, MAX) = BAD
            smell(0, 0) = 6 | smell(0, 60) = 1 | days(3) | smell(0, 60) = 6 | smell(0, 4) = 6 | smell(0, 0) = 1
            smell(25, 61) = BAD | status(0) = 5
            """);
        CHECK.sentence(15, "DAYS go beyond 9999", LAST_DAY + """
            flitch(2, 0, 1) | smell(0, 0) = 1 | smell(0, 3) = 1 | smell(0, 4) = 6 | smell(0, 5) = 1 | smell(0, 11) = 6
            smell(0, 60) = 6 | smell(0, 59) = 1 | count(4) = 9999
            """);
    }

    private static void then() {
        CHECK.sentence(16, "THEN: WILL behind m (0 .. 60) DAYS", """
            flitch(0, 0, 2) | family(0, 0, 0, 99) | then(0, -1) = BAD | then(0, 61) = BAD | then(0, MIN) = BAD
            then(0, MAX) = BAD | then(0, 0) = 99 | then(0, 1) = 98 | then(0, 59) = 40 | then(0, 60) = 39
            of(0, 3) = 99 | count(4) = 0
            """);
        CHECK.sentence(16, "of a FAMILY that is there", """
            then(0, 0) = BAD | family(0, 0, 0, 9) | then(0, 60) = 9 | then(1, 0) = BAD | then(-1, 0) = BAD
            then(MIN, 0) = BAD | then(MAX, 0) = BAD | 6 x family(0, 0, 0, 9) | then(6, 0) = 9 | then(7, 0) = BAD
            """);
        CHECK.sentence(16, "less than 1 is left: 0; LAPSED: 0", """
            flitch(0, 0, 4) | family(0, 0, 0, 5) | then(0, 1) = 3 | then(0, 2) = 1 | then(0, 3) = 0 | then(0, 60) = 0
            turnip(0) | then(0, 3) = 2 | then(0, 4) = 0 | days(4) = 1 | then(0, 0) = 0 | then(0, 60) = 0
            """);
        CHECK.sentence(16, "DAYS go beyond 9999", LAST_DAY + """
            family(3, 0, 0, 50) | family(4, 0, 0, 99) | flitch(2, 0, 1) | family(0, 0, 0, 99)
            then(0, 11) | then(0, 60) | then(1, 60) | then(2, 4) = 99 | then(2, 5) = 96 | then(2, 60) = 75
            """, LAST_DAY + """
            family(3, 0, 0, 50) | then(0, 11) = 50 | then(0, 12) = 44 | then(0, 24) = 44 | then(0, 25) = 38
            family(4, 0, 0, 99) | then(1, 60) = 39
            """);
    }

    private static void when() {
        CHECK.sentence(17, "in how many DAYS (0 .. 60) a FAMILY has LAPSED first; none", """
            flitch(0, 0, 2) | family(0, 0, 0, 59) | family(0, 0, 0, 60) | family(0, 0, 0, 61) | family(0, 0, 0, 1)
            when(0) = 59 | when(1) = 60 | when(2) = NONE | when(3) = 1 | days(1) = 1 | when(2) = 60 | when(3) = 0
            days(58) = 2 | when(0) = 0 | when(1) = 1 | when(2) = 2
            """);
        CHECK.sentence(17, "BAD: a FAMILY that is not there", """
            when(0) = BAD | family(0, 0, 0, 1) | when(0) = NONE | when(1) = BAD | when(-1) = BAD | when(MIN) = BAD
            when(MAX) = BAD | 6 x family(0, 0, 0, 1) | when(6) = NONE | when(7) = BAD
            """);
        CHECK.sentence(17, "as much as is left, or more, is taken", """
            flitch(0, 0, 6) | family(0, 0, 0, 5) | family(0, 0, 0, 6) | family(0, 0, 0, 7)
            when(0) = 2 | when(1) = 2 | when(2) = 3
            """);
        CHECK.sentence(17, "DAYS go beyond 9999", LAST_DAY + """
            family(3, 0, 0, 6) | family(3, 0, 0, 7) | family(4, 0, 0, 60) | family(4, 0, 0, 61)
            when(0) = 12 | when(1) = 25 | when(2) = 60 | when(3) = NONE | count(4) = 9999
            """);
    }

    private static void right() {
        CHECK.sentence(18, "the SIDE that has a FAMILY that has not LAPSED, if the other one has none", """
            flitch(0, 0, 2) | right() = NONE | family(0, 0, 0, 1) | right() = 0 | family(0, 1, 0, 2) | right() = NONE
            days(1) = 1 | right() = 1 | days(1) = 2 | right() = NONE | undo() = 1 | right() = 1
            """, """
            flitch(0, 0, 2) | family(0, 1, 0, 1) | right() = 1 | family(0, 1, 0, 3) | right() = 1 | days(2) = 1
            right() = 1 | days(1) = 2 | right() = NONE | family(0, 0, 0, 1) | right() = 0
            """);
        CHECK.sentence(18, "nobody is, if both have, or none", """
            right() = NONE | 3 x family(0, 0, 0, 1) | 4 x family(0, 1, 0, 1) | right() = NONE | flitch(0, 0, 2)
            days(1) = 7 | right() = NONE
            """);
    }

    private static void ends() {
        CHECK.sentence(19, "in how many DAYS (0), who is RIGHT then (1)", """
            ends(-1) = BAD | ends(2) = BAD | ends(MIN) = BAD | ends(MAX) = BAD | ends(0) = 0 | ends(1) = NONE
            family(0, 1, 0, 9) | ends(0) = 0 | ends(1) = 1
            """);
        CHECK.sentence(19, "in how many DAYS (0 .. 60) somebody is RIGHT first; none", """
            flitch(0, 0, 2) | family(0, 0, 0, 60) | family(0, 1, 0, 99) | ends(0) = 60 | ends(1) = 1
            turnip(0) | ends(0) = NONE | ends(1) = NONE | days(2) = 0 | ends(0) = NONE | ends(1) = NONE
            days(1) = 0 | ends(0) = 60 | ends(1) = 1 | days(59) = 0 | ends(0) = 1 | days(1) = 1 | ends(0) = 0
            ends(1) = 1
            """);
        CHECK.sentence(19, "or all have LAPSED; who is RIGHT then (NONE: nobody, too)", """
            flitch(0, 0, 2) | family(0, 0, 0, 60) | family(0, 1, 0, 60) | ends(0) = 60 | ends(1) = NONE
            turnip(0) | turnip(1) | ends(0) = NONE | ends(1) = NONE | days(60) = 0 | ends(0) = 3 | ends(1) = NONE
            days(3) = 2 | ends(0) = 0 | ends(1) = NONE
            """);
        CHECK.sentence(19, "first: a SIDE is RIGHT ahead of the day on which all have LAPSED", """
            flitch(0, 0, 2) | family(0, 0, 0, 5) | family(0, 1, 0, 3) | family(0, 1, 0, 4) | ends(0) = 4 | ends(1) = 0
            """);
        CHECK.sentence(19, "DAYS go beyond 9999", LAST_DAY + """
            family(3, 0, 0, 6) | family(0, 1, 0, 1) | ends(0) = 12 | ends(1) = 1 | family(4, 0, 0, 60)
            ends(0) = 60 | ends(1) = 1 | turnip(2) | ends(0) = NONE | ends(1) = NONE
            """);
    }

    private static void wayArguments() {
        CHECK.sentence(20, "from CELL a to b (0 .. 24); BAD: -10", """
            way(-1, 0, -2) = -10 BAD | way(25, 0, -2) = -10 BAD | way(0, -1, -2) = -10 BAD | way(0, 25, -2) = -10 BAD
            way(MIN, 0, -2) = -10 BAD | way(0, MAX, 0) = -10 BAD | way(-1, 25, -1) = -10 BAD | status(0) = 7
            way(0, 24, -3) = 8 | way(24, 0, -3) = 8 | way(0, 0, -3) = 0 | way(24, 24, -3) = 0
            """);
        CHECK.sentence(20, "how much (k = -2), how many steps (k = -3); BAD: k = -1, too", """
            way(0, 24, -1) = -10 BAD | way(0, 24, -4) = -10 BAD | way(0, 24, -5) = -10 BAD
            way(0, 24, MIN) = -10 BAD | way(0, 0, -1) = -10 BAD | status(0) = 5 | way(0, 24, -2) = 0
            """);
        CHECK.sentence(20, "the CELL of the k-th step; -5: not so many", """
            way(0, 24, 0) = 1 | way(0, 24, 7) = 24 | way(0, 24, 8) = -5 | way(0, 24, 9) = -5 | way(0, 24, MAX) = -5
            way(0, 1, 0) = 1 | way(0, 1, 1) = -5 | way(7, 7, 0) = -5 | way(7, 7, -2) = 0 | way(7, 7, -3) = 0
            status(0) = 0 | status(1) = 0 | status(2) = 0
            """);
        CHECK.sentence(20, "steps to a CELL beside (in a ROW, a COLUMN)", """
            way(4, 5, -3) = 5 | way(5, 4, -3) = 5 | way(9, 10, -3) = 5 | way(20, 4, -3) = 8 | way(0, 20, -3) = 4
            way(0, 6, -3) = 2 | way(0, 20, 0) = 5 | way(0, 20, 3) = 20 | way(4, 24, 0) = 9 | way(24, 23, 0) = 23
            """);
    }

    private static void besides() {
        StringBuilder script = new StringBuilder();
        for (int a = 0; a < 25; a++) {
            for (int b = 0; b < 25; b++) {
                if (Math.abs(a / 5 - b / 5) + Math.abs(a % 5 - b % 5) == 1) {
                    script.append("way(" + a + ", " + b + ", 0) = " + b + " | way(" + a + ", " + b + ", -3) = 1\n");
                }
            }
        }
        CHECK.sentence(20, "steps to a CELL beside: each of them", script.toString());
    }

    private static void wayItself() {
        CHECK.sentence(20, "the SMELLS of all CELLS that one comes to (b, too, not a) together are least", """
            flitch(0, 12, 2) | way(12, 11, -2) = 0 | way(11, 12, -2) = 2 | way(12, 12, -2) = 0 | way(11, 13, -2) = 0
            way(11, 13, -3) = 4 | way(11, 13, 0) = 6 | way(11, 13, 1) = 7 | way(11, 13, 2) = 8 | way(11, 13, 3) = 13
            way(11, 13, 4) = -5 | way(13, 11, 0) = 8 | way(7, 17, 0) = 6 | way(17, 7, 0) = 16
            """, """
            flitch(0, 12, 4) | way(11, 13, -2) = 2 | way(11, 13, -3) = 6 | way(11, 13, 1) = 1 | way(11, 12, -2) = 4
            """);
        CHECK.sentence(20, "of like ones the fewest steps", """
            flitch(5, 12, 1) | days(1) | smell(0, 0) = 1 | smell(12, 0) = 1 | way(10, 14, -2) = 4
            way(10, 14, -3) = 4 | way(10, 14, 0) = 11
            """, """
            flitch(0, 2, 4) | flitch(0, 12, 2) | way(11, 13, -2) = 0 | way(11, 13, -3) = 4 | way(11, 13, 0) = 16
            way(1, 3, -2) = 2 | way(1, 3, -3) = 8 | way(1, 3, 0) = 6 | way(1, 3, 1) = 11 | way(1, 3, 7) = 3
            way(1, 3, 8) = -5
            """);
        CHECK.sentence(20, "the first such way (CELLS rising)", """
            way(6, 12, 0) = 7 | way(6, 12, 1) = 12 | way(12, 6, 0) = 7 | way(12, 6, 1) = 6 | way(8, 12, 0) = 7
            way(12, 8, 0) = 7 | way(24, 0, 0) = 19 | way(24, 0, 4) = 3 | way(20, 4, 0) = 15 | way(4, 20, 0) = 3
            """, """
            flitch(0, 7, 2) | way(6, 12, 0) = 11 | way(12, 6, 0) = 11 | way(2, 12, -3) = 4 | way(2, 12, 0) = 1
            """);
        CHECK.sentence(20, "the SMELLS of today; FLITCHES that are hung", """
            flitch(2, 0, 1) | way(1, 0, -2) = 6 | way(0, 24, -2) = 40 | days(1) | way(1, 0, -2) = 1
            way(0, 24, -2) = 0 | outs(0) | way(1, 0, -2) = 0 | days(6) | way(1, 0, -2) = 0 | outs(0) = 1
            way(1, 0, -2) = 6 | count(4) = 7
            """);
        CHECK.sentence(20, "how much: the most that can be", """
            3 x flitch(3, 12, 20) | way(0, 12, -2) = 456 | way(0, 24, -2) = 768 | way(0, 24, -3) = 8
            """);
    }

    private static void home() {
        CHECK.sentence(21, "BAD: a FAMILY that is not there", """
            home(0) = BAD | family(0, 0, 0, 1) | home(1) = BAD | home(-1) = BAD | home(MIN) = BAD | home(MAX) = BAD
            home(0) = 0 | 6 x family(0, 0, 9, 1) | home(6) = 0 | home(7) = BAD
            """);
        CHECK.sentence(21, "so that WHEN is the latest; of like ones the least", """
            flitch(0, 0, 20) | family(0, 0, 0, 9) | home(0) = 24 | outs(0) | home(0) = 0 | outs(0)
            flitch(0, 24, 20) | home(0) = 0 | of(0, 2) = 0
            """, """
            flitch(0, 12, 2) | family(0, 0, 12, 30) | home(0) = 0 | goes(0, 24) | home(0) = 0
            """, """
            flitch(0, 24, 20) | family(0, 0, 24, 7) | smell(0, 0) = 4 | smell(1, 0) = 6 | home(0) = 0
            """, """
            flitch(0, 0, 18) | family(0, 0, 0, 50) | smell(24, 0) = 2 | smell(23, 0) = 4 | home(0) = 24
            """);
        CHECK.sentence(21, "the CELL (0 .. 24): the one farthest off, out of each corner", """
            flitch(0, 4, 20) | family(0, 0, 4, 9) | home(0) = 20
            """, """
            flitch(0, 20, 20) | family(0, 0, 4, 9) | home(0) = 4
            """, """
            flitch(0, 24, 20) | family(0, 0, 4, 9) | home(0) = 0
            """, """
            flitch(0, 0, 20) | family(0, 0, 4, 9) | home(0) = 24
            """);
        CHECK.sentence(21, "none is later than any", """
            flitch(0, 0, 2) | family(0, 0, 24, 60) | family(0, 0, 0, 61) | home(0) = 1 | home(1) = 0 | days(1)
            home(1) = 1
            """, """
            flitch(0, 0, 2) | family(0, 0, 0, 99) | home(0) = 0 | days(39) = 0 | of(0, 3) = 60 | home(0) = 1
            """);
        CHECK.sentence(21, "LAPSED: CELL 0", """
            flitch(0, 0, 20) | family(0, 0, 24, 3) | home(0) = 24 | days(2) = 1 | home(0) = 0 | goes(0, 7)
            home(0) = 0
            """);
        CHECK.sentence(21, "DAYS go beyond 9999", LAST_DAY + """
            flitch(2, 0, 3) | family(4, 0, 0, 70) | family(4, 0, 0, 84) | family(4, 0, 0, 85)
            home(0) = 2 | home(1) = 2 | home(2) = 1
            """);
    }

    private static void quiet() {
        CHECK.sentence(22, "for m (1 .. 60)", """
            quiet(0) = BAD | quiet(-1) = BAD | quiet(61) = BAD | quiet(MIN) = BAD | quiet(MAX) = BAD | quiet(1) = 0
            quiet(60) = 0 | flitch(0, 0, 2) | family(0, 0, 0, 60) | quiet(59) = 0 | quiet(60) = 1 | turnip(0)
            quiet(60) = 0 | days(60) = 0 | quiet(2) = 0 | quiet(3) = 1
            """);
        CHECK.sentence(22, "nobody who has not LAPSED does in m DAYS", """
            flitch(0, 0, 4) | family(0, 0, 0, 2) | quiet(1) = 1 | family(0, 0, 24, 1) | quiet(60) = 1
            days(1) = 1 | quiet(60) = 0
            """, """
            flitch(0, 0, 4) | family(0, 0, 0, 3) | quiet(1) = 0 | quiet(2) = 1
            """);
        CHECK.sentence(22, "the fewest (of all, bits; of like ones the least), all others hung", """
            flitch(0, 0, 4) | flitch(0, 0, 4) | flitch(0, 0, 8) | family(0, 0, 0, 9)
            quiet(1) = 0 | quiet(2) = 4 | quiet(3) = 5 | quiet(4) = 5 | quiet(5) = 7
            """, """
            flitch(0, 0, 2) | flitch(0, 0, 2) | flitch(0, 0, 2) | family(0, 0, 0, 3)
            quiet(1) = 1 | quiet(2) = 3 | quiet(3) = 7 | outs(0) | outs(1) | outs(2) | quiet(1) = 1 | quiet(3) = 7
            count(2) = 0
            """, """
            flitch(0, 0, 2) | flitch(0, 24, 4) | family(0, 0, 24, 2) | quiet(1) = 2 | family(0, 0, 0, 1)
            quiet(1) = 3
            """);
        CHECK.sentence(22, "none", """
            family(3, 0, 0, 6) | quiet(1) = NONE | turnip(0) | quiet(13) = 0 | quiet(14) = NONE | flitch(0, 0, 2)
            quiet(1) = 0 | quiet(13) = 0 | quiet(14) = NONE
            """, """
            family(3, 0, 0, 6) | 3 x flitch(0, 0, 2) | quiet(1) = NONE | quiet(60) = NONE | days(1) = 1
            quiet(60) = 0
            """);
        CHECK.sentence(22, "DAYS go beyond 9999", LAST_DAY + """
            family(3, 0, 0, 6) | quiet(11) = 0 | quiet(12) = NONE | family(0, 0, 0, 3) | flitch(2, 0, 1)
            quiet(4) = 0 | quiet(5) = 1
            """);
    }

    private static void marry() {
        CHECK.sentence(23, "how many (i = NONE), with whom one is; BAD: -10", """
            marry(-1) = 0 | marry(0) = -10 BAD | marry(-2) = -10 BAD | marry(MIN) = -10 BAD | marry(MAX) = -10 BAD
            family(0, 0, 0, 1) | marry(0) = NONE | marry(1) = -10 BAD | 6 x family(0, 0, 0, 1) | marry(6) = NONE
            marry(7) = -10 BAD | marry(-1) = 0 | status(0) = 6
            """);
        CHECK.sentence(23, "whose WILLS are unlike by 5 or less", """
            family(0, 0, 0, 10) | family(0, 1, 0, 16) | marry(-1) = 0 | marry(0) = NONE | marry(1) = NONE
            family(0, 1, 0, 15) | marry(-1) = 1 | marry(0) = 2 | marry(1) = NONE | marry(2) = 0
            """, """
            family(0, 0, 0, 10) | family(0, 1, 0, 4) | marry(-1) = 0 | family(0, 1, 0, 5) | marry(-1) = 1
            marry(0) = 2
            """, """
            family(0, 0, 0, 10) | family(0, 1, 0, 10) | marry(-1) = 1 | marry(0) = 1 | marry(1) = 0
            """, """
            flitch(0, 0, 10) | family(0, 0, 0, 1) | family(0, 1, 24, 5) | family(0, 0, 24, 6) | family(0, 1, 0, 2)
            days(1) = 2 | of(0, 3) = 0 | of(3, 3) = 0 | marry(-1) = 2 | marry(0) = 3 | marry(1) = 2
            """);
        CHECK.sentence(23, "FAMILIES of unlike SIDES", """
            family(0, 1, 0, 10) | family(0, 1, 0, 10) | marry(-1) = 0 | marry(0) = NONE | family(0, 0, 0, 10)
            marry(-1) = 1 | marry(0) = NONE | marry(1) = 2 | marry(2) = 1
            """);
        CHECK.sentence(23, "nobody in two: the most pairs", """
            family(0, 0, 0, 10) | family(0, 1, 0, 5) | family(0, 1, 0, 15) | marry(-1) = 1 | family(0, 0, 0, 20)
            marry(-1) = 2 | marry(0) = 1 | marry(1) = 0 | marry(2) = 3 | marry(3) = 2
            """);
        CHECK.sentence(23, "each alone (NONE) first, then by whom rising", """
            family(0, 0, 0, 5) | family(0, 1, 0, 5) | family(0, 0, 0, 5) | family(0, 1, 0, 5) | marry(-1) = 2
            marry(0) = 1 | marry(2) = 3 | family(0, 0, 0, 5) | marry(-1) = 2 | marry(0) = NONE | marry(1) = 2
            marry(3) = 4 | family(0, 1, 0, 5) | marry(-1) = 3 | marry(0) = 1 | marry(4) = 5 | family(0, 0, 0, 5)
            marry(-1) = 3 | marry(0) = NONE | marry(1) = 2 | marry(2) = 1 | marry(3) = 4 | marry(4) = 3 | marry(5) = 6
            marry(6) = 5
            """);
    }

    public static void main(String[] args) {
        smell();
        then();
        when();
        right();
        ends();
        wayArguments();
        besides();
        wayItself();
        home();
        quiet();
        marry();
        CHECK.end("EdgeSmellTest");
    }
}
