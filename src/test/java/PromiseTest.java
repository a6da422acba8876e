/** One method a promise: ordinary calls, the edges that the document names, and wrong numbers. */
public final class PromiseTest {

    private static final Check CHECK = new Check();

    private static final int BAD = -2, NO = -3, FULL = -4, NONE = -1;

    /** A parish of no flitch and these wills, sides by turns, all plain and in cell 0. */
    private static RasherCase wills(int... wills) {
        RasherCase x = new RasherCase();
        for (int i = 0; i < wills.length; i++) {
            x.family(0, i % 2, 0, wills[i]);
        }
        return x;
    }

    /** A family of this kind beside a plain flitch, both in cell 0. */
    private static RasherCase smelling(int kind, int will, int strength) {
        RasherCase x = new RasherCase();
        x.family(kind, 0, 0, will);
        x.flitch(0, 0, strength);
        return x;
    }

    private static void due(String call, long got, long want) {
        CHECK.due(call, got, want);
    }

    private static void refused(RasherCase x, int bad, int no, int full) {
        due("status(0)", x.status(0), bad);
        due("status(1)", x.status(1), no);
        due("status(2)", x.status(2), full);
    }

    private static void newObject() {
        CHECK.promise(1, "a new object");
        RasherCase x = new RasherCase();
        for (int what = 0; what <= 10; what++) {
            due("count(" + what + ")", x.count(what), 0);
        }
        due("part(0)", x.part(0), 0);
        due("part(1)", x.part(1), 1);
        refused(x, 0, 0, 0);
        due("right()", x.right(), NONE);
        due("undo()", x.undo(), NO);
        due("from(0)", x.from(0), NO);
        due("from(1)", x.from(1), NO);
        RasherCase other = new RasherCase();
        other.family(0, 0, 0, 1);
        due("count(0) of one object behind a family of another", x.count(0), 0);
    }

    private static void parish() {
        CHECK.promise(2, "parish");
        RasherCase x = wills(5, 6, 7);
        long fresh = new RasherCase().digest();
        x.flitch(0, 0, 9);
        x.seen(0, 1, 1);
        x.note(0, 1, 0, 0, 1);
        x.mark(0, 1, 0, 0);
        x.days(3);
        x.image(0);
        due("parish()", x.parish(), 3);
        due("digest() as of a new one", x.digest(), fresh);
        due("undo()", x.undo(), NO);
        due("parish() again", x.parish(), 0);
        due("from(0): images stay", x.from(0), 1);
        due("count(0)", x.count(0), 3);
        x.type(65);
        x.mornings(0, 1, 5);
        x.days(0);
        x.parish();
        due("count(10): the text stays", x.count(10), 1);
        due("part(0): the fraction stays", x.part(0), 1);
        refused(x, 1, 1, 0);
    }

    private static void flitch() {
        CHECK.promise(3, "flitch");
        int[][] wrong = {{-1, 0, 1}, {6, 0, 1}, {0, -1, 1}, {0, 25, 1}, {0, 0, 0}, {0, 0, 21}};
        RasherCase x = new RasherCase();
        for (int[] w : wrong) {
            due("flitch with a wrong number", x.flitch(w[0], w[1], w[2]), BAD);
        }
        due("flitch(0, 0, 1)", x.flitch(0, 0, 1), 0);
        due("flitch(5, 24, 20)", x.flitch(5, 24, 20), 1);
        due("flitch(1, 7, 3)", x.flitch(1, 7, 3), 2);
        due("a 4th", x.flitch(0, 0, 1), FULL);
        for (int[] w : wrong) {
            due("BAD goes ahead of FULL", x.flitch(w[0], w[1], w[2]), BAD);
        }
        due("count(1)", x.count(1), 3);
        due("count(2): hung at first", x.count(2), 3);
        refused(x, 12, 0, 1);
        RasherCase y = new RasherCase();
        y.days(1);
        y.flitch(6, 0, 1);
        due("count(9): a refused one leaves undoing", y.count(9), 1);
        y.flitch(0, 0, 1);
        due("undo(): none behind a flitch", y.undo(), NO);
    }

    private static void family() {
        CHECK.promise(4, "family");
        int[][] wrong = {{-1, 0, 0, 1}, {6, 0, 0, 1}, {0, -1, 0, 1}, {0, 2, 0, 1}, {0, 0, -1, 1}, {0, 0, 25, 1},
            {0, 0, 0, 0}, {0, 0, 0, 100}};
        RasherCase x = new RasherCase();
        for (int[] w : wrong) {
            due("family with a wrong number", x.family(w[0], w[1], w[2], w[3]), BAD);
        }
        for (int i = 0; i < 7; i++) {
            due("family", x.family(i % 6, i % 2, 4 * i, i == 0 ? 1 : 99), i);
        }
        due("an 8th", x.family(0, 0, 0, 1), FULL);
        for (int[] w : wrong) {
            due("BAD goes ahead of FULL", x.family(w[0], w[1], w[2], w[3]), BAD);
        }
        due("count(0)", x.count(0), 7);
        due("of(6, 2)", x.of(6, 2), 24);
        refused(x, 16, 0, 1);
        RasherCase y = new RasherCase();
        y.days(1);
        y.family(0, 0, 0, 1);
        due("undo(): none behind a family", y.undo(), NO);
    }

    private static void type() {
        CHECK.promise(5, "type");
        RasherCase x = new RasherCase();
        due("type(-1)", x.type(-1), BAD);
        due("type(128)", x.type(128), BAD);
        for (int n = 1; n <= 150; n++) {
            due("type", x.type(n % 2 == 0 ? 0 : 127), n);
        }
        due("a 151st", x.type(32), FULL);
        due("BAD goes ahead of FULL", x.type(128), BAD);
        due("count(10)", x.count(10), 150);
        refused(x, 3, 0, 1);
    }

    private static void clear() {
        CHECK.promise(6, "clear");
        RasherCase x = new RasherCase();
        due("clear()", x.clear(), 0);
        Check.write(x, "parish; and more");
        due("clear()", x.clear(), 16);
        due("clear()", x.clear(), 0);
        due("count(10)", x.count(10), 0);
        due("read(): nothing is left of it", x.read(), -10);
        due("type(65)", x.type(65), 1);
    }

    private static void fault(String text, int place) {
        RasherCase x = wills(7, 9);
        x.days(1);
        Check.write(x, text);
        long before = x.digest();
        due("read of <" + text + ">", x.read(), -10 - place);
        due("digest() behind the fault in <" + text + ">", x.digest(), before);
        due("undo() behind the fault", x.undo(), 0);
        refused(x, 0, 0, 0);
    }

    private static void read() {
        CHECK.promise(7, "read");
        RasherCase x = wills(3, 4);
        x.flitch(0, 0, 1);
        x.seen(0, 1, 1);
        x.note(0, 1, 0, 0, 1);
        x.mark(0, 1, 0, 0);
        x.image(0);
        x.mornings(0, 1, 5);
        x.days(2);
        due("items", Check.told(x, "  parish ;flitch 0 6 20; family 0 1 6 99;days 3; out 0;family5 00 24 1;"), 6);
        due("count(0)", x.count(0), 2);
        due("count(1)", x.count(1), 1);
        due("count(2)", x.count(2), 0);
        due("count(4)", x.count(4), 3);
        due("of(0, 3)", x.of(0, 3), 69);
        due("of(1, 0)", x.of(1, 0), 5);
        due("of(1, 2)", x.of(1, 2), 24);
        due("count(6)", x.count(6), 0);
        due("count(7)", x.count(7), 0);
        due("count(8)", x.count(8), 0);
        due("undo()", x.undo(), NO);
        due("part(0): the fraction stays", x.part(0), 0);
        due("part(1)", x.part(1), 1);
        due("count(10): the text stays", x.count(10), 71);
        due("read() again", x.read(), 6);
        due("from(0): images stay", x.from(0), 1);
        due("count(0)", x.count(0), 2);
        due("a parish alone", Check.told(x, "parish;   "), 1);
        due("count(0)", x.count(0), 0);
        due("hung again", Check.told(x, "parish;flitch 0 0 1;out 0;out 0;days 99;days 99;"), 6);
        due("count(2)", x.count(2), 1);
        due("count(4)", x.count(4), 198);
        due("lapsed on the way", Check.told(x, "parish;family 0 0 0 1;flitch 0 0 2;days 1;"), 4);
        due("count(3)", x.count(3), 1);
        faults();
    }

    private static void faults() {
        fault("", 0);
        fault("   ", 3);
        fault("parish", 6);
        fault("parish  ", 8);
        fault("paris", 0);
        fault("parishs;", 0);
        fault("parishz;", 0);
        fault("aparish;", 0);
        fault("xarish;", 0);
        fault("parish;xays 1;", 7);
        fault("parish;flitch 0 0 1;xut 0;", 20);
        fault("parish`", 6);
        fault("parish{", 6);
        fault("parish;days :;", 12);
        fault("parish;days /;", 12);
        fault("Parish;", 0);
        fault("parisH;", 0);
        fault(";", 0);
        fault("flitch 0 0 1;", 0);
        fault(" days 1;parish;", 1);
        fault("parish 1;", 7);
        fault("parish;parish;", 7);
        fault("parish;;", 7);
        fault("parish;bacon 1;", 7);
        fault("parish; 1;", 8);
        fault("parish; 123;", 8);
        fault("parish;\tdays 1;", 7);
        fault("parish;flitch 6 0 1;", 14);
        fault("parish;flitch 0 25 1;", 16);
        fault("parish;flitch 0 0 0;", 18);
        fault("parish;flitch 0 0 21;", 18);
        fault("parish;flitch 0 0 100;", 18);
        fault("parish;flitch 0 000 1;", 16);
        fault("parish;flitch 0 0;", 17);
        fault("parish;flitch 0 0 1 1;", 20);
        fault("parish;flitch 0 0 1", 19);
        fault("parish;flitch 0 0 x;", 18);
        fault("parish;flitch 0 0 -1;", 18);
        fault("parish;flitch", 13);
        fault("parish;family 6 0 0 1;", 14);
        fault("parish;family 0 2 0 1;", 16);
        fault("parish;family 0 0 25 1;", 18);
        fault("parish;family 0 0 0 0;", 20);
        fault("parish;family 0 0 0 100;", 20);
        fault("parish;family 0 0 0 ;", 20);
        fault("parish;out 0;", 11);
        fault("parish;flitch 0 0 1;out 1;", 24);
        fault("parish;flitch 0 0 1;out;", 23);
        fault("parish;days 0;", 12);
        fault("parish;days 100;", 12);
        fault("parish;days 1 1;", 14);
        fault("parish;days 1;parish;", 14);
        fault("parish;flitch 0 0 1;flitch 0 0 1;flitch 0 0 1;flitch 9 9;", 46);
        StringBuilder eight = new StringBuilder("parish;");
        for (int i = 0; i < 7; i++) {
            eight.append("family 0 0 0 1;");
        }
        fault(eight + "family x", 112);
        RasherCase x = new RasherCase();
        due("seven families", Check.told(x, eight.toString()), 8);
        due("other numbers", Check.told(x, "parish;flitch 3 11 17;flitch 4 2 9;family 4 1 13 57;family 1 0 22 8;"), 5);
        due("digest()", x.digest(), mixed(2, 2, 2, 0, 0, 65, 0, 0, 0, 0, 68, 3, 11, 17, 1, 4, 2, 9, 1,
            4, 1, 13, 57, 0, 1, 0, 22, 8, 0, 0, 1));
        due("three flitches", Check.told(x, "parish;flitch 5 24 20;flitch 0 0 1;flitch 0 0 1;"), 4);
    }

    private static void days() {
        CHECK.promise(8, "days");
        RasherCase x = smelling(0, 9, 4);
        x.family(0, 1, 0, 4);
        due("days(0)", x.days(0), BAD);
        due("days(61)", x.days(61), BAD);
        due("days(-1)", x.days(-1), BAD);
        due("days(1)", x.days(1), 0);
        due("of(0, 3)", x.of(0, 3), 7);
        due("of(1, 3)", x.of(1, 3), 2);
        due("days(1)", x.days(1), 1);
        due("of(1, 3): none is left", x.of(1, 3), 0);
        due("of(1, 4)", x.of(1, 4), 1);
        due("of(0, 3)", x.of(0, 3), 5);
        due("days(2)", x.days(2), 1);
        due("of(0, 3): 1 is left", x.of(0, 3), 1);
        due("days(60): all that have lapsed", x.days(60), 2);
        due("of(0, 3)", x.of(0, 3), 0);
        due("count(4)", x.count(4), 64);
        due("count(9): together one", x.count(9), 4);
        due("undo()", x.undo(), 4);
        lastDay();
    }

    private static void lastDay() {
        RasherCase x = wills(90);
        for (int n = 0; n < 166; n++) {
            x.days(60);
        }
        x.flitch(0, 0, 2);
        due("count(4)", x.count(4), 9960);
        due("days(60): at 9999 none", x.days(60), 0);
        due("count(4)", x.count(4), 9999);
        due("of(0, 3): 39 days took 1 each", x.of(0, 3), 51);
        due("days(1)", x.days(1), 0);
        due("of(0, 3)", x.of(0, 3), 51);
        due("then(0, 50): days go beyond", x.then(0, 50), 1);
        due("when(0)", x.when(0), 51);
        due("years(0, 0)", x.years(0, 0), 0);
        due("count(4)", x.count(4), 9999);
        RasherCase y = wills(9);
        for (int n = 0; n < 167; n++) {
            y.days(60);
        }
        y.flitch(2, 0, 1);
        due("smell(0, 4): 7 divides 10003", y.smell(0, 4), 6);
        due("smell(0, 5)", y.smell(0, 5), 1);
    }

    private static void goes() {
        CHECK.promise(9, "goes");
        RasherCase x = smelling(0, 2, 4);
        due("goes(1, 0)", x.goes(1, 0), BAD);
        due("goes(-1, 0)", x.goes(-1, 0), BAD);
        due("goes(0, 25)", x.goes(0, 25), BAD);
        due("goes(0, -1)", x.goes(0, -1), BAD);
        due("goes(0, 0): it lives there", x.goes(0, 0), NO);
        due("count(9)", x.count(9), 0);
        due("goes(0, 24)", x.goes(0, 24), 0);
        due("goes(0, 3)", x.goes(0, 3), 24);
        due("of(0, 2)", x.of(0, 2), 3);
        due("of(0, 5)", x.of(0, 5), 0);
        due("undo()", x.undo(), 0);
        due("of(0, 2)", x.of(0, 2), 24);
        x.undo();
        x.days(1);
        due("goes(0, 1): also when it has lapsed", x.goes(0, 1), 0);
        refused(x, 4, 1, 0);
    }

    private static void turnip() {
        CHECK.promise(10, "turnip");
        RasherCase x = wills(95, 97, 1);
        due("turnip(3)", x.turnip(3), BAD);
        due("turnip(-1)", x.turnip(-1), BAD);
        due("turnip(0)", x.turnip(0), 98);
        due("turnip(0): 99 at most", x.turnip(0), 99);
        due("turnip(1)", x.turnip(1), 99);
        due("turnip(2)", x.turnip(2), 4);
        due("count(9)", x.count(9), 4);
        x.flitch(0, 0, 8);
        x.days(1);
        due("turnip(2): it has lapsed", x.turnip(2), NO);
        due("turnip(0)", x.turnip(0), 98);
        refused(x, 2, 1, 0);
    }

    private static void outs() {
        CHECK.promise(11, "outs");
        RasherCase x = smelling(0, 20, 10);
        x.flitch(0, 0, 5);
        due("outs(2)", x.outs(2), BAD);
        due("outs(-1)", x.outs(-1), BAD);
        due("outs(0)", x.outs(0), 0);
        due("smell(0, 0)", x.smell(0, 0), 5);
        due("about(0, 3)", x.about(0, 3), 0);
        due("outs(1)", x.outs(1), 0);
        due("smell(0, 0)", x.smell(0, 0), 0);
        due("outs(0)", x.outs(0), 1);
        due("smell(0, 0)", x.smell(0, 0), 10);
        due("count(2)", x.count(2), 1);
        due("count(9)", x.count(9), 3);
        refused(x, 2, 0, 0);
    }

    private static void undo() {
        CHECK.promise(12, "undo");
        RasherCase x = smelling(0, 6, 4);
        due("undo()", x.undo(), NO);
        long first = x.digest();
        x.goes(0, 7);
        x.turnip(0);
        x.outs(0);
        x.days(4);
        x.outs(0);
        x.goes(0, 0);
        x.days(60);
        due("count(3)", x.count(3), 1);
        due("undo()", x.undo(), 4);
        due("count(3)", x.count(3), 0);
        due("of(0, 3)", x.of(0, 3), 9);
        x.seen(0, 1, 1);
        due("undo()", x.undo(), 4);
        due("of(0, 2)", x.of(0, 2), 7);
        due("undo()", x.undo(), 4);
        due("about(0, 3)", x.about(0, 3), 0);
        due("undo()", x.undo(), 0);
        due("undo()", x.undo(), 0);
        due("about(0, 3)", x.about(0, 3), 1);
        due("undo()", x.undo(), 0);
        due("of(0, 3)", x.of(0, 3), 6);
        due("undo()", x.undo(), 0);
        due("count(6): what was seen stays", x.count(6), 1);
        x.forget(0);
        due("digest() as at first", x.digest(), first);
        due("undo()", x.undo(), NO);
        many();
        RasherCase y = wills(1);
        for (int n = 1; n <= 10; n++) {
            y.days(n);
            due("count(9): 8 at most", y.count(9), Math.min(8, n));
        }
        int[] back = {45, 36, 28, 21, 15, 10, 6, 3, NO};
        for (int day : back) {
            due("undo()", y.undo(), day);
        }
        due("count(4)", y.count(4), 3);
    }

    private static void many() {
        RasherCase x = new RasherCase();
        for (int i = 0; i < 7; i++) {
            x.family(0, i % 2, 3 * i, 90 + i);
        }
        x.flitch(0, 0, 20);
        long before = x.digest();
        x.days(9);
        x.undo();
        due("digest() behind undoing days of seven", x.digest(), before);
    }

    private static void of() {
        CHECK.promise(13, "of");
        RasherCase x = new RasherCase();
        due("of(0, 0)", x.of(0, 0), BAD);
        x.family(4, 1, 13, 57);
        int[] facts = {4, 1, 13, 57, 0, 0};
        for (int what = 0; what <= 5; what++) {
            due("of(0, " + what + ")", x.of(0, what), facts[what]);
        }
        due("of(0, 6)", x.of(0, 6), BAD);
        due("of(0, -1)", x.of(0, -1), BAD);
        due("of(-1, 0)", x.of(-1, 0), BAD);
        due("of(1, 0)", x.of(1, 0), BAD);
        takes(0, new int[] {0, 0, 1, 1, 2, 3, 10}, false);
        takes(1, new int[] {0, 0, 0, 0, 1, 2, 9}, false);
        takes(2, new int[] {0, 2, 3, 3, 4, 5, 12}, false);
        takes(3, new int[] {6, 6, 6, 6, 6, 6, 6}, false);
        takes(4, new int[] {0, 0, 1, 1, 2, 3, 10}, false);
        takes(5, new int[] {0, 4, 6, 6, 8, 9, 9}, false);
        takes(0, new int[] {0, 0, 1, 1, 2, 3, 10}, true);
        takes(1, new int[] {0, 0, 0, 0, 1, 2, 9}, true);
        takes(3, new int[] {0, 0, 0, 0, 1, 2, 9}, true);
        takes(4, new int[] {1, 1, 2, 2, 3, 4, 11}, true);
        RasherCase y = smelling(5, 1, 20);
        due("of(0, 5): more than is left", y.of(0, 5), 9);
        y.days(1);
        due("of(0, 5): it has lapsed", y.of(0, 5), 0);
        due("of(0, 4)", y.of(0, 4), 1);
        due("of(0, 3)", y.of(0, 3), 0);
        RasherCase z = new RasherCase();
        z.family(3, 0, 0, 99);
        z.days(13);
        due("of(0, 5): 13 divides 13", z.of(0, 5), 6);
        z.days(1);
        due("of(0, 5)", z.of(0, 5), 0);
        RasherCase heir = new RasherCase();
        heir.family(4, 0, 0, 99);
        heir.days(19);
        due("of(0, 5) on day 19", heir.of(0, 5), 0);
        heir.days(1);
        due("of(0, 5) on day 20", heir.of(0, 5), 1);
    }

    /** Smells of 0, 1, 2, 3, 4 or 5, 6 or 7, 20, on day 0 or on day 20. */
    private static void takes(int kind, int[] wants, boolean late) {
        int[] smells = {0, 1, 2, 3, 5, 7, 20};
        for (int at = 0; at < smells.length; at++) {
            RasherCase x = new RasherCase();
            x.family(0, 0, 24, 1);
            if (late) {
                x.days(20);
            }
            x.family(kind, 0, 0, 99);
            if (smells[at] > 0) {
                x.flitch(0, 0, smells[at]);
            }
            due("kind " + kind + " by a smell of " + smells[at], x.of(1, 5), wants[at]);
        }
    }

    private static void about() {
        CHECK.promise(14, "about");
        RasherCase x = new RasherCase();
        due("about(0, 0)", x.about(0, 0), BAD);
        x.flitch(4, 23, 17);
        int[] facts = {4, 23, 17, 1};
        for (int what = 0; what <= 3; what++) {
            due("about(0, " + what + ")", x.about(0, what), facts[what]);
        }
        x.outs(0);
        due("about(0, 3)", x.about(0, 3), 0);
        due("about(0, 4)", x.about(0, 4), BAD);
        due("about(0, -1)", x.about(0, -1), BAD);
        due("about(1, 0)", x.about(1, 0), BAD);
        due("about(-1, 0)", x.about(-1, 0), BAD);
        refused(x, 5, 0, 0);
    }

    private static void smell() {
        CHECK.promise(15, "smell");
        int[][] wants = {{7, 9, 12, 18, 4, 12}, {1, 3, 1, 6, 1, 1}, {0, 0, 0, 0, 0, 1}, {0, 0, 5, 0, 0, 1},
            {3, 5, 8, 10, 2, 6}, {5, 7, 5, 14, 3, 4}, {0, 0, 5, 0, 0, 1}};
        int[][] where = {{0, 0}, {3, 1}, {4, 1}, {20, 7}, {6, 14}, {5, 8}, {24, 56}};
        for (int kind = 0; kind < 6; kind++) {
            RasherCase x = new RasherCase();
            x.flitch(kind, 0, 7);
            for (int at = 0; at < where.length; at++) {
                due("kind " + kind + ": smell(" + where[at][0] + ", " + where[at][1] + ")",
                    x.smell(where[at][0], where[at][1]), wants[at][kind]);
            }
        }
        RasherCase x = new RasherCase();
        due("smell(24, 60)", x.smell(24, 60), 0);
        x.flitch(0, 12, 20);
        x.flitch(3, 13, 2);
        due("smell(12, 0): all together", x.smell(12, 0), 20);
        due("smell(13, 0)", x.smell(13, 0), 18 + 8);
        x.outs(0);
        due("smell(13, 0)", x.smell(13, 0), 8);
        due("smell(0, 61)", x.smell(0, 61), BAD);
        due("smell(0, -1)", x.smell(0, -1), BAD);
        due("smell(25, 0)", x.smell(25, 0), BAD);
        due("smell(-1, 0)", x.smell(-1, 0), BAD);
        refused(x, 4, 0, 0);
    }

    private static void then() {
        CHECK.promise(16, "then");
        RasherCase x = smelling(0, 61, 2);
        due("then(0, 0)", x.then(0, 0), 61);
        due("then(0, 1)", x.then(0, 1), 60);
        due("then(0, 60)", x.then(0, 60), 1);
        x.goes(0, 1);
        due("then(0, 60)", x.then(0, 60), 61);
        x.flitch(2, 1, 1);
        due("then(0, 1): 6 smell on day 0", x.then(0, 1), 58);
        due("then(0, 7)", x.then(0, 7), 58);
        due("then(0, 8)", x.then(0, 8), 55);
        due("then(0, 61)", x.then(0, 61), BAD);
        due("then(0, -1)", x.then(0, -1), BAD);
        due("then(1, 0)", x.then(1, 0), BAD);
        due("then(-1, 0)", x.then(-1, 0), BAD);
        due("count(4): nothing is changed", x.count(4), 0);
        RasherCase y = smelling(5, 10, 20);
        due("then(0, 1)", y.then(0, 1), 1);
        due("then(0, 2)", y.then(0, 2), 0);
        due("then(0, 60)", y.then(0, 60), 0);
    }

    private static void when() {
        CHECK.promise(17, "when");
        RasherCase x = smelling(0, 60, 2);
        due("when(0)", x.when(0), 60);
        x.turnip(0);
        due("when(0): none", x.when(0), NONE);
        due("when(1)", x.when(1), BAD);
        due("when(-1)", x.when(-1), BAD);
        x.days(60);
        due("when(0)", x.when(0), 3);
        x.days(2);
        due("when(0)", x.when(0), 1);
        x.days(1);
        due("when(0): it has", x.when(0), 0);
        refused(x, 2, 0, 0);
    }

    private static void right() {
        CHECK.promise(18, "right");
        RasherCase x = new RasherCase();
        due("right()", x.right(), NONE);
        x.family(0, 1, 0, 1);
        due("right(): the other has none", x.right(), 1);
        x.family(0, 0, 0, 5);
        due("right(): both have", x.right(), NONE);
        x.family(0, 1, 0, 2);
        x.flitch(0, 0, 2);
        x.days(1);
        due("right(): one of two has lapsed", x.right(), NONE);
        x.days(1);
        due("right()", x.right(), 0);
        x.days(3);
        due("right(): none has", x.right(), NONE);
    }

    private static void ends() {
        CHECK.promise(19, "ends");
        RasherCase x = new RasherCase();
        due("ends(0): nobody is there", x.ends(0), 0);
        due("ends(1)", x.ends(1), NONE);
        due("ends(2)", x.ends(2), BAD);
        due("ends(-1)", x.ends(-1), BAD);
        x.family(0, 0, 0, 61);
        due("ends(0)", x.ends(0), 0);
        due("ends(1)", x.ends(1), 0);
        x.family(0, 1, 0, 61);
        due("ends(0): never", x.ends(0), NONE);
        due("ends(1)", x.ends(1), NONE);
        x.flitch(0, 0, 2);
        due("ends(0): in 61 days, too late", x.ends(0), NONE);
        x.days(1);
        due("ends(0): both at once", x.ends(0), 60);
        due("ends(1): nobody", x.ends(1), NONE);
        x.turnip(0);
        due("ends(0)", x.ends(0), 60);
        due("ends(1)", x.ends(1), 0);
        x.turnip(1);
        x.turnip(1);
        due("ends(0)", x.ends(0), NONE);
        x.days(4);
        due("ends(0)", x.ends(0), 59);
        due("ends(1)", x.ends(1), 1);
        due("count(4): nothing is changed", x.count(4), 5);
    }

    private static void way() {
        CHECK.promise(20, "way");
        RasherCase x = new RasherCase();
        due("way(7, 7, -2)", x.way(7, 7, -2), 0);
        due("way(7, 7, -3)", x.way(7, 7, -3), 0);
        due("way(7, 7, 0)", x.way(7, 7, 0), -5);
        int[] first = {1, 2, 3, 4, 9, 14, 19, 24, -5};
        for (int k = 0; k < first.length; k++) {
            due("way(0, 24, " + k + ")", x.way(0, 24, k), first[k]);
        }
        int[] back = {19, 14, 9, 4, 3, 2, 1, 0, -5};
        for (int k = 0; k < back.length; k++) {
            due("way(24, 0, " + k + ")", x.way(24, 0, k), back[k]);
        }
        due("way(4, 5, -3): rows have ends", x.way(4, 5, -3), 5);
        for (int c = 0; c < 25; c++) {
            RasherCase y = new RasherCase();
            for (int to = 0; to < 25; to++) {
                int far = Math.abs(c / 5 - to / 5) + Math.abs(c % 5 - to % 5);
                due("way(" + c + ", " + to + ", -3)", y.way(c, to, -3), far);
            }
        }
        x.flitch(0, 2, 2);
        due("way(1, 3, -2): round the door", x.way(1, 3, -2), 0);
        due("way(1, 3, -3)", x.way(1, 3, -3), 4);
        due("way(1, 3, 0)", x.way(1, 3, 0), 6);
        due("way(1, 3, 3)", x.way(1, 3, 3), 3);
        due("way(2, 3, -2): where one is does not count", x.way(2, 3, -2), 0);
        due("way(1, 2, -2): where one comes to does", x.way(1, 2, -2), 2);
        due("way(1, 2, -3)", x.way(1, 2, -3), 1);
        x.outs(0);
        due("way(1, 3, -3)", x.way(1, 3, -3), 2);
        x.outs(0);
        x.flitch(2, 24, 1);
        due("way(23, 24, -2): of today", x.way(23, 24, -2), 6);
        x.days(1);
        due("way(23, 24, -2)", x.way(23, 24, -2), 1);
        due("way(0, 24, 2147483647)", x.way(0, 24, Integer.MAX_VALUE), -5);
        refused(x, 0, 0, 0);
        int[][] wrong = {{-1, 0, -2}, {25, 0, -2}, {0, -1, -2}, {0, 25, -2}, {0, 1, -1}, {0, 1, -4}};
        for (int[] w : wrong) {
            due("way with a wrong number", x.way(w[0], w[1], w[2]), -10);
        }
        refused(x, 6, 0, 0);
    }

    private static void home() {
        CHECK.promise(21, "home");
        RasherCase x = smelling(0, 9, 20);
        due("home(0): in 5 days there", x.home(0), 24);
        RasherCase y = smelling(0, 99, 4);
        due("home(0): the first where it never does", y.home(0), 1);
        due("of(0, 2): nothing is changed", y.of(0, 2), 0);
        RasherCase w = smelling(0, 60, 2);
        due("when(0)", w.when(0), 60);
        due("home(0): none is later than 60 days", w.home(0), 1);
        due("home(1)", y.home(1), BAD);
        due("home(-1)", y.home(-1), BAD);
        y.outs(0);
        due("home(0)", y.home(0), 0);
        RasherCase z = smelling(5, 1, 20);
        due("home(0): by any smell it lapses in a day", z.home(0), 0);
        z.days(1);
        due("home(0): it has lapsed", z.home(0), 0);
    }

    private static void quiet() {
        CHECK.promise(22, "quiet");
        RasherCase x = new RasherCase();
        due("quiet(0)", x.quiet(0), BAD);
        due("quiet(61)", x.quiet(61), BAD);
        due("quiet(60)", x.quiet(60), 0);
        x.family(0, 0, 0, 4);
        x.flitch(0, 0, 2);
        x.flitch(0, 0, 2);
        x.flitch(0, 0, 4);
        due("quiet(1): 4 are taken, one out leaves", x.quiet(1), 1);
        x.turnip(0);
        due("quiet(1): 7 will", x.quiet(1), 0);
        due("quiet(2)", x.quiet(2), 1);
        due("quiet(3)", x.quiet(3), 4);
        due("quiet(6)", x.quiet(6), 5);
        due("quiet(7)", x.quiet(7), 7);
        due("quiet(60)", x.quiet(60), 7);
        x.outs(0);
        x.outs(1);
        x.outs(2);
        due("quiet(1): of all, those that are out too", x.quiet(1), 0);
        due("quiet(7)", x.quiet(7), 7);
        due("count(2): nothing is changed", x.count(2), 0);
        RasherCase y = new RasherCase();
        y.family(3, 0, 0, 6);
        due("quiet(1): no flitch is to blame", y.quiet(1), NONE);
        y.turnip(0);
        due("quiet(1)", y.quiet(1), 0);
        due("quiet(13)", y.quiet(13), 0);
        due("quiet(14)", y.quiet(14), NONE);
        y.days(14);
        due("quiet(60): who has lapsed is left out", y.quiet(60), 0);
    }

    private static void marry() {
        CHECK.promise(23, "marry");
        RasherCase x = new RasherCase();
        due("marry(-1)", x.marry(-1), 0);
        due("marry(0)", x.marry(0), -10);
        due("marry(-2)", x.marry(-2), -10);
        x.family(0, 0, 0, 10);
        x.family(0, 0, 0, 14);
        x.family(0, 1, 0, 15);
        due("marry(-1)", x.marry(-1), 1);
        due("marry(0): alone first", x.marry(0), NONE);
        due("marry(1)", x.marry(1), 2);
        due("marry(2)", x.marry(2), 1);
        due("marry(3)", x.marry(3), -10);
        x.family(0, 1, 0, 19);
        due("marry(-1): the most", x.marry(-1), 2);
        due("marry(0)", x.marry(0), 2);
        due("marry(1)", x.marry(1), 3);
        due("marry(2)", x.marry(2), 0);
        due("marry(3)", x.marry(3), 1);
        x.family(0, 1, 0, 5);
        due("marry(0): by whom rising", x.marry(0), 2);
        due("marry(4)", x.marry(4), NONE);
        x.family(0, 0, 0, 99);
        due("marry(5)", x.marry(5), NONE);
        due("marry(-1)", x.marry(-1), 2);
        x.parish();
        x.family(0, 0, 0, 1);
        due("marry(-1): there is but one now", x.marry(-1), 0);
        due("marry(0)", x.marry(0), NONE);
        RasherCase y = wills(1, 7);
        due("marry(-1): unlike by 6", y.marry(-1), 0);
        y.flitch(0, 0, 4);
        y.days(1);
        due("marry(-1): who has lapsed has 0", y.marry(-1), 1);
        due("marry(0)", y.marry(0), 1);
        refused(x, 3, 0, 0);
    }

    private static void seen() {
        CHECK.promise(24, "seen");
        RasherCase x = wills(9, 9);
        int[][] wrong = {{2, 0, 0}, {-1, 0, 0}, {0, 61, 0}, {0, -1, 0}, {0, 0, 2}, {0, 0, -1}};
        for (int[] w : wrong) {
            due("seen with a wrong number", x.seen(w[0], w[1], w[2]), BAD);
        }
        for (int n = 1; n <= 5; n++) {
            due("seen", x.seen(n % 2, n == 1 ? 60 : 0, n % 2), n);
        }
        due("a 6th", x.seen(0, 0, 0), FULL);
        for (int[] w : wrong) {
            due("BAD goes ahead of FULL", x.seen(w[0], w[1], w[2]), BAD);
        }
        due("count(6)", x.count(6), 5);
        refused(x, 12, 0, 1);
    }

    private static void wills() {
        CHECK.promise(25, "wills");
        RasherCase x = smelling(0, 50, 4);
        x.family(0, 1, 24, 1);
        due("wills(0, 0)", x.wills(0, 0), 99);
        x.seen(0, 10, 0);
        due("wills(0, 0): 20 are taken", x.wills(0, 0), 79);
        due("wills(0, 1)", x.wills(0, 1), 21);
        due("wills(0, 2)", x.wills(0, 2), 99);
        x.seen(0, 12, 1);
        due("wills(0, 0): all that fit", x.wills(0, 0), 4);
        due("wills(0, 1)", x.wills(0, 1), 21);
        due("wills(0, 2)", x.wills(0, 2), 24);
        due("wills(1, 0): others are not meant", x.wills(1, 0), 99);
        x.days(60);
        due("wills(0, 0): from now on, though it has lapsed", x.wills(0, 0), 4);
        x.goes(0, 24);
        due("wills(0, 0): nothing is smelt there", x.wills(0, 0), 0);
        due("wills(0, 1)", x.wills(0, 1), NONE);
        due("wills(0, 2)", x.wills(0, 2), NONE);
        due("wills(0, 3)", x.wills(0, 3), BAD);
        due("wills(0, -1)", x.wills(0, -1), BAD);
        due("wills(2, 0)", x.wills(2, 0), BAD);
        due("wills(-1, 0)", x.wills(-1, 0), BAD);
        x.seen(1, 0, 1);
        due("wills(1, 0): as if it had not lapsed", x.wills(1, 0), 0);
        refused(x, 4, 0, 0);
    }

    private static void note() {
        CHECK.promise(26, "note");
        RasherCase x = new RasherCase();
        due("note(0, 1, 0, 0, 0)", x.note(0, 1, 0, 0, 0), BAD);
        x.flitch(0, 0, 1);
        int[][] wrong = {{-1, 1, 0, 0, 0}, {1, 1, 0, 0, 0}, {0, 0, 0, 0, 0}, {0, 21, 0, 0, 0}, {0, 1, -1, 0, 0},
            {0, 1, 9, 0, 0}, {0, 1, 0, -1, 0}, {0, 1, 0, 100, 0}, {0, 1, 0, 0, -1}, {0, 1, 0, 0, 61}};
        for (int[] w : wrong) {
            due("note with a wrong number", x.note(w[0], w[1], w[2], w[3], w[4]), BAD);
        }
        for (int n = 1; n <= 6; n++) {
            due("note", n == 1 ? x.note(0, 20, 8, 99, 60) : x.note(0, 1, 0, 0, 0), n);
        }
        due("a 7th", x.note(0, 1, 0, 0, 0), FULL);
        for (int[] w : wrong) {
            due("BAD goes ahead of FULL", x.note(w[0], w[1], w[2], w[3], w[4]), BAD);
        }
        due("count(7)", x.count(7), 6);
        refused(x, 21, 0, 1);
    }

    private static void mark() {
        CHECK.promise(27, "mark");
        RasherCase x = wills(1);
        int[][] wrong = {{-1, 0, 0, 0}, {1, 0, 0, 0}, {0, -1, 0, 0}, {0, 61, 0, 0}, {0, 0, -1, 0}, {0, 0, 100, 0},
            {0, 0, 0, -1}, {0, 0, 0, 41}};
        for (int[] w : wrong) {
            due("mark with a wrong number", x.mark(w[0], w[1], w[2], w[3]), BAD);
        }
        for (int n = 1; n <= 6; n++) {
            due("mark", n == 1 ? x.mark(0, 60, 99, 40) : x.mark(0, 0, 0, 0), n);
        }
        due("a 7th", x.mark(0, 0, 0, 0), FULL);
        for (int[] w : wrong) {
            due("BAD goes ahead of FULL", x.mark(w[0], w[1], w[2], w[3]), BAD);
        }
        due("count(8)", x.count(8), 6);
        refused(x, 16, 0, 1);
    }

    private static void forget() {
        CHECK.promise(28, "forget");
        RasherCase x = smelling(0, 9, 1);
        x.seen(0, 0, 0);
        x.note(0, 1, 0, 0, 0);
        x.note(0, 1, 0, 0, 0);
        x.mark(0, 0, 0, 0);
        x.mark(0, 0, 0, 0);
        x.mark(0, 0, 0, 0);
        due("forget(3)", x.forget(3), BAD);
        due("forget(-1)", x.forget(-1), BAD);
        for (int what = 0; what <= 2; what++) {
            due("count(" + (6 + what) + ")", x.count(6 + what), what + 1);
            due("forget(" + what + ")", x.forget(what), what + 1);
            due("count(" + (6 + what) + ")", x.count(6 + what), 0);
            due("forget(" + what + ") again", x.forget(what), 0);
        }
        refused(x, 2, 0, 0);
    }

    private static void is() {
        CHECK.promise(29, "is");
        RasherCase x = new RasherCase();
        due("is(0)", x.is(0), BAD);
        due("is(-1)", x.is(-1), BAD);
        x.flitch(0, 0, 1);
        x.flitch(0, 0, 1);
        due("is(0)", x.is(0), 63);
        x.note(0, 7, 0, 1, 7);
        due("is(0): plain, dripping, sung", x.is(0), 1 + 4 + 32);
        x.note(0, 7, 0, 14, 12);
        due("is(0): dripping, sung", x.is(0), 4 + 32);
        x.note(0, 7, 2, 8, 1);
        due("is(0): sung", x.is(0), 32);
        x.note(0, 7, 2, 8, 2);
        due("is(0)", x.is(0), 0);
        due("is(1): others are not meant", x.is(1), 63);
        x.note(1, 7, 0, 1, 18);
        due("is(1): frying", x.is(1), 8);
        x.forget(1);
        x.note(1, 7, 0, 1, 9);
        due("is(1): smoked", x.is(1), 2);
        x.forget(1);
        x.note(1, 7, 0, 1, 4);
        due("is(1): old", x.is(1), 16);
        due("is(2)", x.is(2), BAD);
    }

    private static void look() {
        CHECK.promise(30, "look");
        RasherCase x = new RasherCase();
        due("look(0)", x.look(0), BAD);
        due("look(-1)", x.look(-1), BAD);
        x.flitch(0, 0, 20);
        due("look(0): dripping and sung part 1 off", x.look(0), 10);
        x.note(0, 20, 0, 1, 20);
        due("look(0): plain, dripping, sung", x.look(0), 10);
        x.note(0, 20, 1, 1, 18);
        due("look(0): plain and dripping part on day 0", x.look(0), 0);
        x.note(0, 20, 0, 7, 20);
        due("look(0): plain alone", x.look(0), 0);
        x.note(0, 20, 0, 7, 21);
        due("look(0): no kind", x.look(0), NONE);
        RasherCase y = new RasherCase();
        y.flitch(0, 0, 1);
        y.note(0, 3, 1, 1, 1);
        due("is(0): plain, dripping, old, sung", y.is(0), 1 + 4 + 16 + 32);
        due("look(0): its strength as it is", y.look(0), 0);
        y.note(0, 2, 0, 1, 2);
        due("is(0): plain, dripping, sung", y.is(0), 1 + 4 + 32);
        due("look(0)", y.look(0), 10);
        due("look(1)", y.look(1), BAD);
        RasherCase z = new RasherCase();
        z.flitch(0, 0, 1);
        z.note(0, 3, 1, 7, 6);
        due("is(0): dripping, frying", z.is(0), 4 + 8);
        due("look(0): alike on day 0, not on day 1", z.look(0), 1);
        z.flitch(0, 0, 1);
        z.note(1, 2, 1, 1, 0);
        due("is(1): all but sung", z.is(1), 31);
        due("look(1): plain and old, dripping and frying stay alike", z.look(1), 0);
        z.note(1, 1, 0, 1, 1);
        due("is(1): plain, dripping, old", z.is(1), 1 + 4 + 16);
        due("look(1): one must stay alike", z.look(1), 0);
    }

    private static void kinds() {
        CHECK.promise(31, "kinds");
        RasherCase x = wills(5, 5);
        due("kinds(2)", x.kinds(2), BAD);
        due("kinds(-1)", x.kinds(-1), BAD);
        due("kinds(0)", x.kinds(0), 63);
        x.mark(0, 7, 1, 3);
        due("kinds(0): plain, heir", x.kinds(0), 1 + 16);
        x.mark(0, 7, 20, 4);
        due("kinds(0): heir", x.kinds(0), 16);
        due("kinds(1): others are not meant", x.kinds(1), 63);
        x.mark(1, 7, 1, 2);
        due("kinds(1): grave, Methodist", x.kinds(1), 2 + 8);
        x.mark(1, 7, 26, 6);
        due("kinds(1): Methodist", x.kinds(1), 8);
        x.mark(1, 7, 26, 7);
        due("kinds(1)", x.kinds(1), 0);
        x.forget(2);
        x.mark(1, 7, 1, 5);
        due("kinds(1): child", x.kinds(1), 4);
        x.forget(2);
        x.mark(1, 7, 1, 9);
        due("kinds(1): singer", x.kinds(1), 32);
    }

    private static void ask() {
        CHECK.promise(32, "ask");
        RasherCase x = wills(5, 5);
        due("ask(2)", x.ask(2), BAD);
        due("ask(-1)", x.ask(-1), BAD);
        due("ask(0): plain and heir stay alike", x.ask(0), 2);
        x.mark(0, 7, 1, 3);
        due("ask(0): plain, heir: nothing parts them", x.ask(0), 0);
        x.forget(2);
        x.mark(0, 7, 1, 2);
        due("ask(0): grave, Methodist part by 0", x.ask(0), 0);
        x.forget(2);
        x.mark(0, 2, 1, 0);
        due("kinds(0): grave, Methodist", x.kinds(0), 2 + 8);
        x.mark(0, 0, 0, 6);
        due("ask(0): Methodist alone", x.ask(0), 0);
        x.mark(0, 0, 0, 7);
        due("ask(0): no kind", x.ask(0), NONE);
        x.mark(1, 14, 1, 6);
        due("kinds(1): grave, Methodist", x.kinds(1), 2 + 8);
        x.forget(2);
        x.mark(1, 14, 0, 6);
        due("kinds(1)", x.kinds(1), 2 + 8);
        due("ask(1)", x.ask(1), 0);
        refused(x, 2, 0, 0);
    }

    private static void brothers() {
        CHECK.promise(33, "brothers");
        RasherCase x = new RasherCase();
        x.family(0, 0, 0, 9);
        due("brothers(0, 1)", x.brothers(0, 1), BAD);
        due("brothers(1, 0)", x.brothers(1, 0), BAD);
        due("brothers(-1, 0)", x.brothers(-1, 0), BAD);
        due("brothers(0, 0): alike", x.brothers(0, 0), NO);
        x.family(0, 1, 0, 9);
        due("brothers(0, 1): 9 and 9", x.brothers(0, 1), 2 + 4 + 8);
        x.turnip(0);
        due("brothers(0, 1): 12 and 9", x.brothers(0, 1), 2 + 8);
        due("brothers(1, 0)", x.brothers(1, 0), 4 + 8);
        x.turnip(1);
        RasherCase y = wills(10, 10);
        due("brothers(0, 1): 10 and 10", y.brothers(0, 1), 8);
        due("brothers(0, 1): 12 and 12", x.brothers(0, 1), 8);
        x.flitch(0, 0, 8);
        due("brothers(0, 1): 8 and 8", x.brothers(0, 1), 2 + 4);
        x.goes(0, 24);
        due("brothers(0, 1): 12 and 8", x.brothers(0, 1), 2);
        due("brothers(1, 0): 8 and 12", x.brothers(1, 0), 4);
        x.days(3);
        due("of(1, 4)", x.of(1, 4), 1);
        due("brothers(0, 1): one has lapsed", x.brothers(0, 1), NO);
        due("brothers(1, 0)", x.brothers(1, 0), NO);
        x.family(0, 0, 0, 5);
        due("brothers(0, 2): alike", x.brothers(0, 2), NO);
        refused(x, 3, 4, 0);
    }

    private static void fraction(RasherCase x, int i, int n, int c, long above, long below) {
        String call = "mornings(" + i + ", " + n + ", " + c + ")";
        due(call, x.mornings(i, n, c), 1);
        due("part(0) behind " + call, x.part(0), above);
        due("part(1) behind " + call, x.part(1), below);
    }

    private static void mornings() {
        CHECK.promise(34, "mornings");
        RasherCase x = smelling(0, 3, 2);
        fraction(x, 0, 0, 5, 0, 1);
        fraction(x, 0, 2, 0, 0, 1);
        fraction(x, 0, 3, 0, 1, 1);
        fraction(x, 0, 6, 10, 0, 1);
        fraction(x, 0, 3, 5, 1, 8);
        fraction(x, 0, 6, 5, 21, 32);
        fraction(x, 0, 3, 3, 343, 1000);
        fraction(x, 0, 3, 4, 27, 125);
        due("mornings(0, 7, 0)", x.mornings(0, 7, 0), BAD);
        due("mornings(0, -1, 0)", x.mornings(0, -1, 0), BAD);
        due("mornings(0, 0, 11)", x.mornings(0, 0, 11), BAD);
        due("mornings(0, 0, -1)", x.mornings(0, 0, -1), BAD);
        due("mornings(1, 0, 0)", x.mornings(1, 0, 0), BAD);
        due("mornings(-1, 0, 0)", x.mornings(-1, 0, 0), BAD);
        due("part(0): nothing is changed", x.part(0), 27);
        due("part(1)", x.part(1), 125);
        due("of(0, 3)", x.of(0, 3), 3);
        x.days(3);
        fraction(x, 0, 0, 10, 1, 1);
        RasherCase y = new RasherCase();
        y.family(3, 0, 0, 6);
        fraction(y, 0, 1, 10, 1, 1);
        y.turnip(0);
        y.flitch(0, 0, 6);
        fraction(y, 0, 2, 9, 0, 1);
        fraction(y, 0, 3, 9, 1, 100);
        due("status(0)", x.status(0), 6);
        RasherCase z = new RasherCase();
        z.family(3, 0, 0, 6);
        z.days(1);
        z.family(3, 0, 0, 6);
        z.days(10);
        fraction(z, 1, 2, 5, 0, 1);
        fraction(z, 1, 3, 5, 1, 1);
        RasherCase child = smelling(2, 6, 1);
        fraction(child, 0, 3, 5, 1, 8);
        fraction(child, 0, 6, 10, 0, 1);
        fraction(y, 0, 1, 5, 0, 1);
        fraction(y, 0, 6, 0, 1, 1);
        fraction(y, 0, 6, 9, 4073, 50000);
    }

    private static void years() {
        CHECK.promise(35, "years");
        RasherCase x = wills(5, 5);
        due("years(1000000, 0)", x.years(1000000, 0), BAD);
        due("years(-1, 0)", x.years(-1, 0), BAD);
        due("years(0, 61)", x.years(0, 61), BAD);
        due("years(0, -1)", x.years(0, -1), BAD);
        due("years(999999, 60)", x.years(999999, 60), 0);
        x.flitch(0, 0, 4);
        due("years(0, 0)", x.years(0, 0), 0);
        // X is 12345 at first, by 65536 0: family 0 goes to cell 0; then 1406932606: 21468 by 7 is 6, nobody;
        // then 654583775: 9988 by 7 is 6, nobody.
        due("years(0, 2): 1 is left", x.years(0, 2), 0);
        due("years(0, 3)", x.years(0, 3), 2);
        due("of(0, 4): nothing is changed", x.of(0, 4), 0);
        due("count(4)", x.count(4), 0);
        due("count(9)", x.count(9), 0);
        RasherCase y = new RasherCase();
        y.family(0, 0, 24, 4);
        y.flitch(0, 0, 4);
        due("years(0, 1): to cell 0", y.years(0, 1), 0);
        due("years(0, 2): 2 each day", y.years(0, 2), 1);
        due("of(0, 2)", y.of(0, 2), 24);
        y.goes(0, 0);
        y.days(2);
        due("years(5, 0): who has lapsed is counted", y.years(5, 0), 1);
        for (int seed = 0; seed < 999999; seed += 33331) {
            RasherCase z = new RasherCase();
            Model model = new Model();
            for (int i = 0; i < 7; i++) {
                z.family(i % 6, i % 2, 3 * i, 8 + 5 * i);
                model.family(i % 6, i % 2, 3 * i, 8 + 5 * i);
            }
            z.flitch(0, 12, 12);
            model.flitch(0, 12, 12);
            for (int n = 0; n <= 60; n++) {
                due("years as gone through day by day", z.years(seed, n), model.years(seed, n));
            }
        }
    }

    private static void part() {
        CHECK.promise(36, "part");
        RasherCase x = smelling(0, 1, 2);
        due("part(0)", x.part(0), 0);
        due("part(1)", x.part(1), 1);
        due("part(2)", x.part(2), BAD);
        due("part(-1)", x.part(-1), BAD);
        x.mornings(0, 6, 1);
        due("part(0)", x.part(0), 999999);
        due("part(1)", x.part(1), 1000000);
        x.image(0);
        x.mornings(0, 0, 0);
        x.from(0);
        due("part(1): no image keeps it", x.part(1), 1);
        refused(x, 2, 0, 0);
    }

    private static void image() {
        CHECK.promise(37, "image");
        RasherCase x = smelling(0, 9, 4);
        due("image(2)", x.image(2), BAD);
        due("image(-1)", x.image(-1), BAD);
        x.seen(0, 5, 1);
        x.note(0, 3, 1, 1, 1);
        x.mark(0, 3, 1, 1);
        x.days(1);
        x.outs(0);
        x.goes(0, 3);
        long kept = x.digest();
        due("image(0)", x.image(0), 1);
        due("digest() as ahead of it", x.digest(), kept);
        x.undo();
        x.turnip(0);
        x.forget(0);
        x.forget(1);
        x.forget(2);
        x.family(1, 1, 1, 1);
        x.flitch(1, 1, 1);
        due("image(1)", x.image(1), 1);
        long other = x.digest();
        x.from(0);
        due("digest() from image 0", x.digest(), kept);
        due("undo(): what may be undone is kept", x.undo(), 1);
        due("of(0, 2)", x.of(0, 2), 0);
        due("undo()", x.undo(), 1);
        due("about(0, 3)", x.about(0, 3), 1);
        due("undo()", x.undo(), 0);
        due("of(0, 3)", x.of(0, 3), 9);
        due("undo()", x.undo(), NO);
        x.from(0);
        due("digest() from image 0 again", x.digest(), kept);
        x.from(1);
        due("digest() from image 1", x.digest(), other);
        x.parish();
        x.image(0);
        x.from(1);
        x.from(0);
        due("count(0): an image is kept anew", x.count(0), 0);
        imageOfAll();
    }

    private static void imageOfAll() {
        RasherCase x = new RasherCase();
        x.flitch(3, 11, 17);
        x.flitch(5, 24, 2);
        x.flitch(4, 6, 7);
        for (int i = 0; i < 7; i++) {
            x.family(i % 6, (i + 1) % 2, 3 * i, 90 + i);
        }
        x.seen(3, 4, 1);
        x.note(2, 3, 4, 5, 6);
        x.mark(6, 7, 8, 9);
        x.outs(1);
        x.days(2);
        x.goes(6, 1);
        long kept = x.digest();
        x.image(1);
        x.parish();
        x.flitch(1, 1, 1);
        x.family(1, 1, 1, 1);
        x.seen(0, 0, 0);
        x.note(0, 1, 0, 0, 0);
        x.mark(0, 0, 0, 0);
        x.turnip(0);
        x.turnip(0);
        x.turnip(0);
        x.from(1);
        due("digest() from an image of all", x.digest(), kept);
        due("undo()", x.undo(), 2);
        due("of(6, 2)", x.of(6, 2), 18);
        due("undo()", x.undo(), 0);
        due("of(6, 3)", x.of(6, 3), 96);
        due("undo()", x.undo(), 0);
        due("count(2)", x.count(2), 3);
    }

    private static void from() {
        CHECK.promise(38, "from");
        RasherCase x = wills(4, 5);
        due("from(2)", x.from(2), BAD);
        due("from(-1)", x.from(-1), BAD);
        due("from(0)", x.from(0), NO);
        due("from(1)", x.from(1), NO);
        x.image(1);
        due("from(0)", x.from(0), NO);
        x.parish();
        x.type(65);
        due("from(1)", x.from(1), 1);
        due("count(0)", x.count(0), 2);
        due("count(10): the text stays", x.count(10), 1);
        x.turnip(0);
        due("from(1)", x.from(1), 1);
        due("of(0, 3): what goes on leaves the image", x.of(0, 3), 4);
        refused(x, 2, 3, 0);
    }

    private static void status() {
        CHECK.promise(39, "status");
        RasherCase x = new RasherCase();
        refused(x, 0, 0, 0);
        due("status(3)", x.status(3), -1);
        due("status(-1)", x.status(-1), -1);
        refused(x, 2, 0, 0);
        x.undo();
        refused(x, 2, 1, 0);
        for (int k = 0; k < 5; k++) {
            x.flitch(0, 0, 1);
        }
        refused(x, 2, 1, 2);
        x.read();
        x.way(0, 0, 0);
        x.quiet(1);
        refused(x, 2, 1, 2);
        x.way(0, 0, -1);
        x.marry(-5);
        x.part(5);
        x.count(11);
        refused(x, 6, 1, 2);
        x.image(0);
        x.from(0);
        x.parish();
        refused(x, 6, 1, 2);
    }

    private static void count() {
        CHECK.promise(40, "count");
        RasherCase x = wills(4, 5, 20);
        x.flitch(0, 0, 8);
        x.flitch(0, 0, 1);
        x.seen(0, 0, 0);
        x.note(0, 1, 0, 0, 0);
        x.note(0, 1, 0, 0, 0);
        x.mark(0, 0, 0, 0);
        x.mark(0, 0, 0, 0);
        x.mark(0, 0, 0, 0);
        x.outs(1);
        x.days(2);
        Check.write(x, "abcd");
        int[] wants = {3, 2, 1, 2, 2, 12, 1, 2, 3, 2, 4};
        for (int what = 0; what <= 10; what++) {
            due("count(" + what + ")", x.count(what), wants[what]);
        }
        due("count(11)", x.count(11), BAD);
        due("count(-1)", x.count(-1), BAD);
        refused(x, 2, 0, 0);
    }

    private static void digest() {
        CHECK.promise(41, "digest");
        RasherCase x = new RasherCase();
        due("digest()", x.digest(), mixed(0, 0, 0, 0, 0, 0, 0, 0, 0, 0, 0, 0, 1));
        x.flitch(3, 11, 17);
        x.flitch(5, 24, 2);
        x.family(4, 1, 13, 57);
        x.family(2, 0, 0, 1);
        x.seen(1, 60, 1);
        x.note(1, 20, 8, 99, 60);
        x.mark(0, 59, 98, 40);
        x.mark(1, 3, 4, 5);
        x.outs(0);
        x.days(1);
        x.type(1);
        x.mornings(1, 1, 3);
        due("digest()", x.digest(), mixed(2, 2, 1, 1, 1, 56, 1, 1, 2, 2, 1, 3, 11, 17, 0, 5, 24, 2, 1,
            4, 1, 13, 56, 0, 2, 0, 0, 0, 1, 1, 60, 1, 1, 20, 8, 99, 60, 0, 59, 98, 40, 1, 3, 4, 5, 1, 1));
        refused(x, 0, 0, 0);
    }

    private static long mixed(long... values) {
        long h = 1667;
        for (long v : values) {
            h = 31 * h + v;
        }
        return h;
    }

    public static void main(String[] args) {
        newObject();
        parish();
        flitch();
        family();
        type();
        clear();
        read();
        days();
        goes();
        turnip();
        outs();
        undo();
        of();
        about();
        smell();
        then();
        when();
        right();
        ends();
        way();
        home();
        quiet();
        marry();
        seen();
        wills();
        note();
        mark();
        forget();
        is();
        look();
        kinds();
        ask();
        brothers();
        mornings();
        years();
        part();
        image();
        from();
        status();
        count();
        digest();
        CHECK.end("PromiseTest");
    }
}
