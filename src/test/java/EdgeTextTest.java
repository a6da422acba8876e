/** The edges of promise 7: where a text is at fault, and what a parish that is read leaves alone. */
public final class EdgeTextTest {

    private static final Check CHECK = new Check();

    /** A parish that stands ahead of reading, so that it shows when it does not stay. */
    private static final String STANDING = """
        flitch(0, 0, 2) | family(0, 0, 0, 9) | family(0, 1, 0, 1) | seen(0, 1, 1) | note(0, 1, 0, 0, 1)
        mark(0, 1, 0, 0) | image(0) | mornings(1, 1, 5) | days(1) | outs(0)
        """;

    private static final String AS_IT_STOOD = """
        \ncount(0) = 2 | count(1) = 1 | count(2) = 0 | count(3) = 1 | count(4) = 1 | count(5) = 8 | count(6) = 1
        count(7) = 1 | count(8) = 1 | count(9) = 2 | status(0) = 0 | status(1) = 0 | status(2) = 0
        """;

    private static void fault(String words, String text, int place) {
        CHECK.sentence(7, words + ": <" + text + ">",
            STANDING + "text " + text + "\nread() = " + (-10 - place) + AS_IT_STOOD);
    }

    private static void reads(String words, String text, int items, String behind) {
        CHECK.sentence(7, words + ": <" + text + ">", STANDING + "text " + text + "\nread() = " + items + "\n" + behind);
    }

    private static void ordinary() {
        reads("how many ITEMS", "parish;", 1, "count(0) = 0 | count(1) = 0 | count(4) = 0");
        reads("ITEMS, each ended by ;", "parish;flitch 3 11 17;family 4 1 13 57;days 1;out 0;", 5,
            "about(0, 0) = 3 | about(0, 1) = 11 | about(0, 2) = 17 | about(0, 3) = 0 | of(0, 0) = 4 | of(0, 1) = 1\n"
                + "of(0, 2) = 13 | of(0, 3) = 42 | count(4) = 1");
        reads("out k (put out, or hung again)", "parish;flitch 0 0 4;out 0;days 1;out 0;family 0 0 0 9;days 1;", 7,
            "about(0, 3) = 1 | of(0, 3) = 7 | count(4) = 2");
        reads("each ITEM does what it says and no more", "parish;flitch 0 0 4;flitch 0 0 4;flitch 0 0 4;family 0 0 0 9;", 5,
            "count(2) = 3 | count(4) = 0 | of(0, 3) = 9 | count(0) = 1");
        reads("each ITEM does what it says and no more", "parish;flitch 0 0 4;flitch 0 0 4;flitch 1 2 4;out 2;out 1;", 6,
            "count(2) = 1 | about(0, 3) = 1 | count(4) = 0 | count(0) = 0 | count(1) = 3");
        reads("each ITEM does what it says and no more", "parish;flitch 0 0 4;flitch 0 0 4;family 1 0 0 9;days 1;", 5,
            "count(2) = 2 | count(4) = 1 | of(0, 3) = 6 | count(0) = 1 | count(1) = 2");
        reads("all seven, all three, whoever was there", "parish;flitch1 2 3;flitch4 5 6;flitch5 7 8;family1 1 1 11;"
            + "family2 0 2 12;family3 1 3 13;family4 0 4 14;family5 1 5 15;family0 0 6 16;family1 1 7 17;", 11,
            "about(2, 0) = 5 | about(2, 1) = 7 | about(2, 2) = 8 | of(3, 0) = 4 | of(4, 1) = 1 | of(5, 2) = 6\n"
                + "of(6, 3) = 17 | of(6, 0) = 1 | of(6, 1) = 1 | of(6, 2) = 7 | count(5) = 98");
        reads("blanks (32) between", "  parish  ;  flitch  0  0  1  ;  ", 2, "count(1) = 1");
        reads("days gone by while nobody was there take nothing", "parish;flitch 0 0 9;days 9;family 0 0 0 1;", 4,
            "of(0, 3) = 1 | count(3) = 0 | count(4) = 9");
        reads("who LAPSED on the way", "parish;flitch 0 0 2;family 0 0 0 2;family 0 1 0 3;days 2;", 5,
            "of(0, 4) = 1 | of(1, 4) = 0 | right() = 1 | count(3) = 1 | count(5) = 1");
    }

    private static void parishFirst() {
        fault("anything ahead of it", "flitch 0 0 1;", 0);
        fault("anything ahead of it", "days 1;parish;", 0);
        fault("anything ahead of it", "out 0;", 0);
        fault("anything ahead of it", "family 0 0 0 1;parish;", 0);
        fault("anything ahead of it", ";parish;", 0);
        fault("anything ahead of it", " 1 parish;", 1);
        fault("anything ahead of it", "  !parish;", 2);
        fault("anything ahead of it", "x parish;", 0);
        fault("parish again", "parish;parish;", 7);
        fault("parish again", "parish; days 1; parish;", 16);
        fault("parish again", "parish;parish", 7);
        fault("parish again", "parish parish;", 7);
        fault("parish has no number", "parish 1;", 7);
    }

    private static void words() {
        fault("a word that is none", "parisch;", 0);
        fault("a word that is none", "paris;", 0);
        fault("a word that is none", "parishes;", 0);
        fault("a word that is none", "parish;day 1;", 7);
        fault("a word that is none", "parish;dayss 1;", 7);
        fault("a word that is none", "parish;flitches 0 0 1;", 7);
        fault("a word that is none", "parish;flitc 0 0 1;", 7);
        fault("a word that is none", "parish;families 0 0 0 1;", 7);
        fault("a word that is none", "parish;outs 0;", 7);
        fault("a word that is none", "parish;ou 0;", 7);
        fault("a word that is none", "parish;a", 7);
        fault("a word that is none", "parish; z;", 8);
        fault("a word whose first letter is another", "barish;", 0);
        fault("a word whose first letter is another", "parish;glitch 0 0 1;", 7);
        fault("a word whose first letter is another", "parish;gamily 0 0 0 1;", 7);
        fault("a word whose first letter is another", "parish;bays 1;", 7);
        fault("a word whose first letter is another", "parish;flitch 0 0 1;put 0;", 20);
        fault("a word whose last letter is another", "parisa;", 0);
        fault("a word whose last letter is another", "parish;flitcz 0 0 1;", 7);
        fault("a word where a number is due", "parish;days days;", 12);
        fault("a word where a number is due", "parish;flitch x 0 1;", 14);
        fault("a word where a number is due", "parish;flitch 0 flitch 1;", 16);
        fault("a word where a number is due", "parish;family 0 x 0 1;", 16);
        fault("a word where a number is due", "parish;flitch 0 0 1;out out;", 24);
        fault("; where a number is due", "parish;flitch 0 ; 1;", 16);
        fault("a word where ; is due", "parish;days 1 days 1;", 14);
        fault("; where a word is due", "parish;;", 7);
        fault("; where a number is due", "parish;days;", 11);
        fault("; where a number is due", "parish;flitch 0 0;", 17);
        fault("; where a number is due", "parish;family 0 0 0;", 19);
        fault("; where a number is due", "parish;family ;", 14);
        fault("a number where a word is due", "parish;1;", 7);
        fault("a number where ; is due", "parish;days 1 1;", 14);
        fault("a number where ; is due", "parish;flitch 0 0 1 1;", 20);
        fault("a number where ; is due", "parish;family 0 0 0 1 1;", 22);
        fault("the first of several", "parish;days 0;days 0;", 12);
    }

    /** Every byte behind the word: letters make another word of it, all else begins a token of its own, or none. */
    private static void bytes() {
        for (int first = 0; first < 128; first += 16) {
            StringBuilder script = new StringBuilder();
            for (int b = first; b < first + 16; b++) {
                boolean letter = b >= 'a' && b <= 'z';
                int due = letter ? -10 : b == ';' ? -17 : b == ' ' ? 1 : -16;
                script.append("text parish\ntype(" + b + ") = 7 | type(59) = 8 | read() = " + due + "\n");
            }
            CHECK.sentence(7, "TOKENS: words of letters a .. z; a byte that begins none", script.toString());
            script = new StringBuilder();
            for (int b = first; b < first + 16; b++) {
                boolean figure = b >= '1' && b <= '9';
                int due = figure ? 2 : b == ' ' ? -23 : -22;
                script.append("text parish;days\ntype(32) = 12 | type(" + b + ") = 13 | type(59) = 14\n");
                script.append("read() = " + due + "\n");
            }
            CHECK.sentence(7, "TOKENS: figures; a byte that begins none", script.toString());
        }
        fault("a byte that begins none", "parish;days 9:", 13);
        fault("a byte that begins none", "parish;days 9/;", 13);
        fault("a byte that begins none", "parish;days -1;", 12);
        fault("a byte that begins none", "parish;days +1;", 12);
        fault("a byte that begins none", "parish;days\t1;", 11);
        fault("a byte that begins none", "Parish;", 0);
        fault("a byte that begins none behind a word that is none", "pariSh;", 0);
        fault("a byte that begins none", "parish;\0", 7);
        fault("a byte that begins none", "\177parish;", 0);
        fault("a byte that begins none", "parish; ~", 8);
    }

    private static void figures() {
        reads("figures (1 or 2 are one number)", "parish;flitch 00 00 01;family 05 01 09 09;days 01;out 00;", 5,
            "about(0, 2) = 1 | about(0, 3) = 0 | of(0, 0) = 5 | of(0, 2) = 9 | count(4) = 1");
        fault("a run of three figures or more (at its first one)", "parish;days 001;", 12);
        fault("a run of three figures or more (at its first one)", "parish;days 100;", 12);
        fault("a run of three figures or more (at its first one)", "parish;days 00000001;", 12);
        fault("a run of three figures or more (at its first one)", "parish;days 4294967297;", 12);
        fault("a run of three figures or more (at its first one)", "parish;flitch 000 0 1;", 14);
        fault("a run of three figures or more (at its first one)", "parish;family 0 0 0 099;", 20);
        fault("a run of three figures or more (at its first one)", "parish;flitch 0 0 1;out 000;", 24);
        fault("a run of three figures where no number is due", "parish 123;", 7);
        fault("a run of three figures where no number is due", "123", 0);
        fault("a run of three figures where no number is due", "parish;123;", 7);
        fault("a run of three figures where no number is due", "parish;days 1 123;", 14);
        fault("two numbers are not one", "parish;days 1 2;", 14);
    }

    private static void numbers() {
        reads("flitch KIND (0 .. 5)", "parish;flitch 0 0 1;flitch 5 0 1;", 3, "about(0, 0) = 0 | about(1, 0) = 5");
        fault("flitch KIND (0 .. 5)", "parish;flitch 6 0 1;", 14);
        fault("flitch KIND (0 .. 5)", "parish;flitch 99 0 1;", 14);
        reads("flitch CELL (0 .. 24)", "parish;flitch 0 0 1;flitch 0 24 1;", 3, "about(0, 1) = 0 | about(1, 1) = 24");
        fault("flitch CELL (0 .. 24)", "parish;flitch 0 25 1;", 16);
        reads("flitch STRENGTH (1 .. 20)", "parish;flitch 0 0 1;flitch 0 0 20;", 3,
            "about(0, 2) = 1 | about(1, 2) = 20");
        fault("flitch STRENGTH (1 .. 20)", "parish;flitch 0 0 0;", 18);
        fault("flitch STRENGTH (1 .. 20)", "parish;flitch 0 0 21;", 18);
        reads("family KIND (0 .. 5)", "parish;family 0 0 0 1;family 5 0 0 1;", 3, "of(0, 0) = 0 | of(1, 0) = 5");
        fault("family KIND (0 .. 5)", "parish;family 6 0 0 1;", 14);
        reads("family SIDE (0, 1)", "parish;family 0 0 0 1;family 0 1 0 1;", 3, "of(0, 1) = 0 | of(1, 1) = 1");
        fault("family SIDE (0, 1)", "parish;family 0 2 0 1;", 16);
        reads("family CELL (0 .. 24)", "parish;family 0 0 0 1;family 0 0 24 1;", 3, "of(0, 2) = 0 | of(1, 2) = 24");
        fault("family CELL (0 .. 24)", "parish;family 0 0 25 1;", 18);
        reads("family WILL (1 .. 99)", "parish;family 0 0 0 1;family 0 0 0 99;", 3, "of(0, 3) = 1 | of(1, 3) = 99");
        fault("family WILL (1 .. 99)", "parish;family 0 0 0 0;", 20);
        fault("family WILL (1 .. 99)", "parish;family 0 0 0 00;", 20);
        reads("days n (1 .. 99)", "parish;days 1;days 99;", 3, "count(4) = 100");
        fault("days n (1 .. 99)", "parish;days 0;", 12);
        fault("days n (1 .. 99)", "parish;days 00;", 12);
        fault("the first number that is not as told", "parish;flitch 6 25 21;", 14);
        fault("the first number that is not as told", "parish;family 0 2 25 0;", 16);
    }

    private static void flitchNotThereYet() {
        fault("a FLITCH that is not there yet", "parish;out 0;", 11);
        fault("a FLITCH that is not there yet", "parish;out 0;flitch 0 0 1;", 11);
        fault("a FLITCH that is not there yet", "parish;flitch 0 0 1;out 1;", 24);
        fault("a FLITCH that is not there yet", "parish;flitch 0 0 1;flitch 0 0 1;flitch 0 0 1;out 3;", 50);
        reads("a FLITCH that is there", "parish;flitch 0 0 1;out 0;", 3, "count(2) = 0");
        reads("a FLITCH that is there", "parish;flitch 0 0 1;flitch 0 0 1;flitch 0 0 1;out 2;", 5,
            "count(2) = 2 | about(2, 3) = 0");
    }

    private static void room() {
        String flitches = "parish;" + "flitch 0 0 1;".repeat(3);
        reads("FLITCHES 0 .. 2", flitches, 4, "count(1) = 3 | flitch(0, 0, 1) = FULL");
        fault("a 4th flitch at its word", flitches + "flitch", 46);
        fault("a 4th flitch at its word", flitches + " flitch 0 0 1;", 47);
        fault("a 4th flitch at its word", flitches + "days 1;flitch 9 9 9;", 53);
        String families = "parish;" + "family 0 0 0 1;".repeat(7);
        reads("FAMILIES 0 .. 6", families, 8, "count(0) = 7 | family(0, 0, 0, 1) = FULL");
        fault("an 8th family at its word", families + "family", 112);
        fault("an 8th family at its word", families + " family 0 0 0 1;", 113);
        fault("an 8th family at its word", families + "days 1;family 9", 119);
        reads("all that there is room for", "parish;" + "flitch0 0 1;".repeat(3) + "family0 0 0 1;".repeat(7), 11,
            "count(0) = 7 | count(1) = 3 | count(10) = 141");
    }

    private static void tooEarly() {
        fault("an empty one, too", "", 0);
        fault("THE TEXT's length, if it ends too early", " ", 1);
        fault("THE TEXT's length, if it ends too early", "     ", 5);
        String whole = "parish;flitch 5 24 20; days 3;";
        int[] due = {-10, -10, -10, -10, -10, -10, -16, 1, -17, -17, -17, -17, -17, -23, -24, -25, -26, -27, -28, -29,
            -30, -31, 2, 2, -33, -33, -33, -37, -38, -39, 3};
        for (int length = 0; length <= whole.length(); length++) {
            String text = whole.substring(0, length);
            if (due[length] < 0) {
                fault("THE TEXT's length, if it ends too early", text, -10 - due[length]);
            } else {
                reads("as much as there is", text, due[length], "count(10) = " + length);
            }
        }
        CHECK.sentence(7, "150 bytes at most: the last place that can be at fault", STANDING
            + "text " + " ".repeat(149) + "p\nread() = -159" + AS_IT_STOOD, STANDING
            + "text " + " ".repeat(144) + "parish\nread() = -160" + AS_IT_STOOD, STANDING
            + "text " + " ".repeat(150) + "\nread() = -160" + AS_IT_STOOD);
        CHECK.sentence(7, "150 bytes at most: read to the last one",
            "text " + " ".repeat(143) + "parish;\nread() = 1 | type(59) = FULL | read() = 1",
            "text parish;" + "days 99;".repeat(17) + "days 1;\nread() = 19 | count(4) = 1684 | count(10) = 150",
            "text parish;flitch 0 0 1;" + "out 0;".repeat(21) + "    \nread() = 23 | about(0, 3) = 0");
    }

    /** What was typed ahead of clearing lies behind the end of a shorter text, where nothing may see it. */
    private static void cleared() {
        CHECK.sentence(6, "THE TEXT is empty: nothing behind the end of the next one is read", """
            text parish;days 12;
            text parish;days 1
            read() = -23
            text parish;days 1;
            text parish;day
            read() = -17
            text parish;flitch 0 0 1;
            text parish;flitch
            read() = -23
            text parish;days 1;days 1;
            text parish;days 1;
            read() = 2 | count(4) = 1
            text         parish;
            text parish
            read() = -16
            """);
    }

    private static void whatStays() {
        CHECK.sentence(7, "takes the place of all but IMAGES, THE TEXT, THE FRACTION, STATUS", STANDING + """
            undo() = 1 | undo() = 0 | undo() = NO | days(0) = BAD | image(1)
            text parish;flitch 4 4 4;
            read() = 2 | count(10) = 20 | part(0) = 1 | part(1) = 2 | status(0) = 1 | status(1) = 1
            count(0) = 0 | count(1) = 1 | count(4) = 0 | about(0, 0) = 4 | read() = 2 | count(1) = 1
            from(0) = 1 | count(0) = 2 | about(0, 0) = 0 | read() = 2 | from(1) = 1 | count(0) = 2
            """);
        CHECK.sentence(7, "SEEN ones, NOTES, MARKS none; nothing to undo", STANDING + """
            text parish;flitch 0 0 1;family 0 0 0 5;days 2;out 0;
            read() = 5 | count(6) = 0 | count(7) = 0 | count(8) = 0 | count(9) = 0 | undo() = NO | count(4) = 2
            wills(0, 0) = 99 | is(0) = 63 | kinds(0) = 63 | turnip(0) = 8 | count(9) = 1 | undo() = 2
            """);
        CHECK.sentence(7, "-10 less the FAULT: all stays, STATUS too",
            STANDING + "text parish;flitch 0 0 1;family 1 1 1 1;days 9;x\nread() = -52 | read() = -52"
                + AS_IT_STOOD + "undo() = 1 | count(2) = 1 | undo() = 0 | of(1, 4) = 0 | from(0) = 1");
    }

    public static void main(String[] args) {
        ordinary();
        parishFirst();
        words();
        bytes();
        figures();
        numbers();
        flitchNotThereYet();
        room();
        tooEarly();
        cleared();
        whatStays();
        CHECK.end("EdgeTextTest");
    }
}
