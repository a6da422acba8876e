/** The edges of the kinds: what flitches smell of how far off and when, what that takes off whom. */
public final class EdgeKindTest {

    private static final Check CHECK = new Check();

    /** The cells that lie 0 to 8 off cell 0. */
    private static final int[] OFF = {0, 1, 2, 3, 4, 9, 14, 19, 24};

    /** A flitch in cell 0 that smells so 0 to 8 off, m days from the first. */
    private static String smells(int kind, int strength, int m, int... wants) {
        StringBuilder script = new StringBuilder("flitch(" + kind + ", 0, " + strength + ") = 0\n");
        for (int f = 0; f < wants.length; f++) {
            script.append("smell(" + OFF[f] + ", " + m + ") = " + wants[f] + "\n");
        }
        return script.toString();
    }

    /** What smells of x, made by a plain flitch, take off a family of a kind on a day. */
    private static String takes(int kind, int day, int[]... smellsAndWants) {
        StringBuilder script = new StringBuilder();
        for (int[] pair : smellsAndWants) {
            script.append("parish()\n");
            if (day > 0) {
                script.append("days(" + day + ") = 0\n");
            }
            if (pair[0] > 0) {
                script.append("flitch(0, 3, " + pair[0] + ") = 0\n");
            }
            script.append("family(" + kind + ", 0, 3, 99) = 0 | smell(3, 0) = " + pair[0]
                + " | of(0, 5) = " + pair[1] + " | then(0, 1) = " + (99 - pair[1])
                + " | days(1) = 0 | of(0, 3) = " + (99 - pair[1]) + "\n");
        }
        return script.toString();
    }

    private static int[] by(int smell, int want) {
        return new int[] {smell, want};
    }

    private static void places() {
        CHECK.sentence(15, "CELLS 0 .. 24: 5 times the ROW and the COLUMN; FAR is by ROWS and COLUMNS together", """
            flitch(0, 4, 20) = 0
            smell(4, 1) = 20 | smell(3, 1) = 18 | smell(9, 1) = 18 | smell(5, 1) = 10 | smell(0, 1) = 12
            smell(8, 1) = 16 | smell(24, 1) = 12 | smell(20, 1) = 4 | smell(21, 1) = 6
            """, """
            flitch(0, 20, 20) = 0
            smell(20, 1) = 20 | smell(4, 1) = 4 | smell(15, 1) = 18 | smell(19, 1) = 10 | smell(24, 1) = 12
            """);
        CHECK.sentence(15, "SMELL of a CELL: what all FLITCHES that are hung SMELL of there, together", """
            smell(0, 0) = 0
            flitch(3, 0, 20) = 0 | flitch(3, 0, 20) = 1
            smell(0, 1) = 88
            flitch(3, 0, 20) = 2
            smell(0, 1) = 132 | smell(24, 1) = 36
            outs(2) = 0 | smell(0, 1) = 88
            outs(0) = 0 | smell(0, 1) = 44
            outs(1) = 0 | smell(0, 1) = 0
            outs(2) = 1 | smell(0, 1) = 44
            """);
    }

    private static void flitchKinds() {
        CHECK.sentence(15, "PLAIN: s less twice f, 0 at least",
            smells(0, 1, 1, 1, 0, 0, 0, 0, 0, 0, 0, 0),
            smells(0, 4, 1, 4, 2, 0, 0, 0, 0, 0, 0, 0),
            smells(0, 5, 1, 5, 3, 1, 0, 0, 0, 0, 0, 0),
            smells(0, 16, 7, 16, 14, 12, 10, 8, 6, 4, 2, 0),
            smells(0, 20, 0, 20, 18, 16, 14, 12, 10, 8, 6, 4),
            "flitch(0, 0, 20) | flitch(0, 24, 1) | smell(0, 1) = 20 | smell(24, 1) = 5");
        CHECK.sentence(15, "SMOKED: PLAIN and 2, if that is 1 or more",
            smells(1, 1, 1, 3, 0, 0, 0, 0, 0, 0, 0, 0),
            smells(1, 2, 0, 4, 0, 0, 0, 0, 0, 0, 0, 0),
            smells(1, 3, 7, 5, 3, 0, 0, 0, 0, 0, 0, 0),
            smells(1, 16, 1, 18, 16, 14, 12, 10, 8, 6, 4, 0),
            smells(1, 17, 1, 19, 17, 15, 13, 11, 9, 7, 5, 3));
        CHECK.sentence(15, "DRIP: PLAIN, 5 more, if 7 divides d",
            smells(2, 4, 0, 9, 7, 5, 5, 5, 5, 5, 5, 5),
            smells(2, 4, 1, 4, 2, 0, 0, 0, 0, 0, 0, 0),
            "flitch(2, 0, 2) | smell(0, 0) = 7 | smell(0, 1) = 2 | smell(0, 6) = 2 | smell(0, 7) = 7"
                + "| smell(0, 8) = 2 | smell(0, 13) = 2 | smell(0, 14) = 7 | smell(0, 56) = 7 | smell(0, 60) = 2",
            "166 x days(60) | days(35) | flitch(2, 0, 2) | count(4) = 9995 | smell(0, 0) = 2 | smell(0, 1) = 7"
                + "| smell(0, 2) = 2 | smell(0, 7) = 2 | smell(0, 8) = 7");
        CHECK.sentence(15, "FRYING: twice SMOKED",
            smells(3, 1, 1, 6, 0, 0, 0, 0, 0, 0, 0, 0),
            smells(3, 2, 0, 8, 0, 0, 0, 0, 0, 0, 0, 0),
            smells(3, 20, 1, 44, 40, 36, 32, 28, 24, 20, 16, 12));
        CHECK.sentence(15, "OLD: half (cut up) of PLAIN",
            smells(4, 1, 0, 1, 0, 0, 0, 0, 0, 0, 0, 0),
            smells(4, 2, 1, 1, 0, 0, 0, 0, 0, 0, 0, 0),
            smells(4, 5, 1, 3, 2, 1, 0, 0, 0, 0, 0, 0),
            smells(4, 19, 7, 10, 9, 8, 7, 6, 5, 4, 3, 2),
            smells(4, 20, 1, 10, 9, 8, 7, 6, 5, 4, 3, 2));
        CHECK.sentence(15, "SUNG: DRIP less f, 1 at least",
            smells(5, 1, 1, 1, 1, 1, 1, 1, 1, 1, 1, 1),
            smells(5, 1, 0, 6, 4, 3, 2, 1, 1, 1, 1, 1),
            smells(5, 7, 1, 7, 4, 1, 1, 1, 1, 1, 1, 1),
            smells(5, 7, 7, 12, 9, 6, 3, 1, 1, 1, 1, 1),
            smells(5, 20, 1, 20, 17, 14, 11, 8, 5, 2, 1, 1),
            smells(5, 20, 14, 25, 22, 19, 16, 13, 10, 7, 4, 1),
            "flitch(5, 0, 1) | smell(24, 1) = 1 | outs(0) = 0 | smell(24, 1) = 0 | smell(0, 0) = 0");
    }

    private static void familyKinds() {
        CHECK.sentence(13, "PLAIN: half (cut) of x",
            takes(0, 0, by(0, 0), by(1, 0), by(2, 1), by(3, 1), by(4, 2), by(19, 9), by(20, 10)),
            takes(0, 20, by(0, 0), by(1, 0), by(2, 1), by(3, 1)), takes(0, 13, by(0, 0), by(3, 1)));
        CHECK.sentence(13, "GRAVE: PLAIN less 1, 0 at least",
            takes(1, 0, by(0, 0), by(1, 0), by(2, 0), by(3, 0), by(4, 1), by(5, 1), by(6, 2), by(20, 9)),
            takes(1, 13, by(0, 0), by(4, 1)), takes(1, 20, by(0, 0), by(4, 1)));
        CHECK.sentence(13, "CHILD: PLAIN and 2, if x is 1 or more",
            takes(2, 0, by(0, 0), by(1, 2), by(2, 3), by(3, 3), by(4, 4), by(20, 12)),
            takes(2, 13, by(0, 0), by(1, 2)), takes(2, 20, by(0, 0), by(1, 2)));
        CHECK.sentence(13, "METHODIST: as GRAVE, but 6, if 13 divides d",
            takes(3, 0, by(0, 6), by(1, 6), by(14, 6), by(20, 6)),
            takes(3, 1, by(0, 0), by(3, 0), by(4, 1), by(14, 6), by(20, 9)),
            takes(3, 12, by(0, 0), by(4, 1)), takes(3, 13, by(0, 6), by(4, 6), by(20, 6)),
            takes(3, 14, by(0, 0), by(4, 1)), takes(3, 25, by(4, 1)), takes(3, 26, by(4, 6), by(0, 6)),
            takes(3, 27, by(4, 1)), takes(3, 39, by(0, 6)), takes(3, 52, by(0, 6)));
        CHECK.sentence(13, "HEIR: PLAIN, 1 more, if d is 20 or more",
            takes(4, 0, by(0, 0), by(1, 0), by(2, 1)), takes(4, 19, by(0, 0), by(1, 0), by(2, 1)),
            takes(4, 20, by(0, 1), by(1, 1), by(2, 2), by(20, 11)), takes(4, 21, by(0, 1), by(2, 2)),
            takes(4, 60, by(0, 1)));
        CHECK.sentence(13, "SINGER: twice CHILD, 9 at most",
            takes(5, 0, by(0, 0), by(1, 4), by(2, 6), by(3, 6), by(4, 8), by(5, 8), by(6, 9), by(7, 9), by(20, 9)),
            takes(5, 13, by(0, 0), by(4, 8)), takes(5, 20, by(0, 0), by(4, 8)));
        CHECK.sentence(13, "how much WILL a SMELL of x takes off: the strongest that can be", """
            3 x flitch(3, 12, 20)
            family(0, 0, 12, 99) | family(1, 0, 12, 99) | family(2, 0, 12, 99)
            family(3, 0, 12, 99) | family(4, 0, 12, 99) | family(5, 0, 12, 99)
            of(0, 5) = 66 | of(1, 5) = 65 | of(2, 5) = 68 | of(3, 5) = 6 | of(4, 5) = 66 | of(5, 5) = 9
            days(1) = 0 | count(5) = 314 | of(3, 5) = 65 | days(1) = 4 | of(3, 3) = 28 | of(5, 3) = 81
            """);
    }

    public static void main(String[] args) {
        places();
        flitchKinds();
        familyKinds();
        CHECK.end("EdgeKindTest");
    }
}
