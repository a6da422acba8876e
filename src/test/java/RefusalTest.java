import java.util.ArrayList;
import java.util.LinkedHashMap;
import java.util.List;
import java.util.Map;

/**
 * Every call that takes a number, with each number in turn not as told, in a new object, in one that has some of
 * all, in one that has all that there is room for: it is refused as BAD, and nothing but STATUS is changed.
 */
public final class RefusalTest {

    private static final Check CHECK = new Check();

    /** The calls as the document promises them, from promise 2 on. */
    private static final List<String> PROMISED = List.of(("parish flitch family type clear read days goes turnip outs "
        + "undo of about smell then when right ends way home quiet marry seen wills note mark forget is look kinds "
        + "ask brothers mornings years part image from status count digest").split(" "));

    private static final int KIND = 0, CELL = 1, STRENGTH = 2, SIDE = 3, WILL = 4, BYTE = 5, DAYS = 6, BEHIND = 7,
        FAMILY = 8, FLITCH = 9, FACT = 10, ABOUT = 11, PAIR = 12, STEP = 13, PARTNER = 14, THREE = 15, FAR = 16,
        DATE = 17, SMELL = 18, LOSS = 19, WIND = 20, MORNINGS = 21, SEED = 22, COUNT = 23;

    private static final int[][] TOLD = {{0, 5}, {0, 24}, {1, 20}, {0, 1}, {1, 99}, {0, 127}, {1, 60}, {0, 60},
        {0, 6}, {0, 2}, {0, 5}, {0, 3}, {0, 1}, {-3, 0}, {-1, 6}, {0, 2}, {0, 8}, {0, 99}, {0, 60}, {0, 40}, {0, 10},
        {0, 6}, {0, 999999}, {0, 10}};

    private static final Map<String, int[]> FACE = new LinkedHashMap<>();

    static {
        FACE.put("flitch", new int[] {KIND, CELL, STRENGTH});
        FACE.put("family", new int[] {KIND, SIDE, CELL, WILL});
        FACE.put("type", new int[] {BYTE});
        FACE.put("days", new int[] {DAYS});
        FACE.put("goes", new int[] {FAMILY, CELL});
        FACE.put("turnip", new int[] {FAMILY});
        FACE.put("outs", new int[] {FLITCH});
        FACE.put("of", new int[] {FAMILY, FACT});
        FACE.put("about", new int[] {FLITCH, ABOUT});
        FACE.put("smell", new int[] {CELL, BEHIND});
        FACE.put("then", new int[] {FAMILY, BEHIND});
        FACE.put("when", new int[] {FAMILY});
        FACE.put("ends", new int[] {PAIR});
        FACE.put("way", new int[] {CELL, CELL, STEP});
        FACE.put("home", new int[] {FAMILY});
        FACE.put("quiet", new int[] {DAYS});
        FACE.put("marry", new int[] {PARTNER});
        FACE.put("seen", new int[] {FAMILY, BEHIND, SIDE});
        FACE.put("wills", new int[] {FAMILY, THREE});
        FACE.put("note", new int[] {FLITCH, STRENGTH, FAR, DATE, SMELL});
        FACE.put("mark", new int[] {FAMILY, SMELL, DATE, LOSS});
        FACE.put("forget", new int[] {THREE});
        FACE.put("is", new int[] {FLITCH});
        FACE.put("look", new int[] {FLITCH});
        FACE.put("kinds", new int[] {FAMILY});
        FACE.put("ask", new int[] {FAMILY});
        FACE.put("brothers", new int[] {FAMILY, FAMILY});
        FACE.put("mornings", new int[] {FAMILY, MORNINGS, WIND});
        FACE.put("years", new int[] {SEED, BEHIND});
        FACE.put("part", new int[] {PAIR});
        FACE.put("image", new int[] {PAIR});
        FACE.put("from", new int[] {PAIR});
        FACE.put("status", new int[] {THREE});
        FACE.put("count", new int[] {COUNT});
    }

    /** Two flitches, three families, one of which has lapsed, room for more of all. */
    private static final String SOME = """
        flitch(2, 0, 9) | flitch(0, 12, 3) | family(0, 0, 3, 50) | family(3, 1, 7, 5) | family(2, 1, 24, 40)
        seen(1, 5, 1) | note(0, 9, 1, 0, 12) | mark(2, 4, 1, 4) | mornings(0, 3, 3) | image(1) | days(2) = 1
        goes(0, 4) | turnip(2) | outs(1)
        text parish;family 0 0 0 9;
        """;

    /** All that there is room for, both images, eight that may be undone, the fullest text. */
    private static final String ALL = EdgeParishTest.full() + """
        image(0) | mornings(1, 4, 3) | turnip(5) | turnip(3) | days(2) | goes(6, 2) | outs(0) | days(1) | outs(2)
        turnip(6) | goes(5, 0) | image(1) | outs(2)
        text parish;flitch 4 4 4;days 9;\s
        """ + "\n" + (150 - 28) + " x type(32)\n";

    private final int families;
    private final int flitches;

    private RefusalTest(int families, int flitches) {
        this.families = families;
        this.flitches = flitches;
    }

    private int low(int told) {
        return TOLD[told][0];
    }

    private int high(int told) {
        switch (told) {
            case FAMILY:
            case PARTNER:
                return families - 1;
            case FLITCH:
                return flitches - 1;
            default:
                return TOLD[told][1];
        }
    }

    private List<Integer> wrong(int told) {
        List<Integer> values = new ArrayList<>(List.of(low(told) - 1, Integer.MIN_VALUE));
        if (told == STEP) {
            values.add(-1);
            return values;
        }
        values.add(high(told) + 1);
        values.add(Integer.MAX_VALUE);
        return values;
    }

    private static String answer(String name) {
        switch (name) {
            case "way":
            case "marry":
                return "-10 BAD";
            case "status":
                return "-1 BAD";
            default:
                return "BAD";
        }
    }

    private static String call(String name, int[] numbers) {
        StringBuilder words = new StringBuilder();
        for (int n : numbers) {
            words.append(words.length() == 0 ? "" : ", ").append(n);
        }
        return name + "(" + words + ") = " + answer(name) + "\n";
    }

    /** One number is wrong, the others are the least as told, then the greatest. */
    private String calls(String name) {
        int[] told = FACE.get(name);
        StringBuilder script = new StringBuilder();
        for (int at = 0; at < told.length; at++) {
            for (int value : wrong(told[at])) {
                int[] least = new int[told.length];
                int[] greatest = new int[told.length];
                for (int other = 0; other < told.length; other++) {
                    least[other] = other == at ? value : low(told[other]);
                    greatest[other] = other == at ? value : high(told[other]);
                }
                script.append(call(name, least));
                script.append(told.length > 1 ? call(name, greatest) : "");
            }
        }
        return script.toString();
    }

    private void refuse(String state, String ahead) {
        for (String name : FACE.keySet()) {
            CHECK.sentence(PROMISED.indexOf(name) + 2, name + ", refused in " + state
                + ": changing nothing but STATUS", ahead + calls(name));
        }
    }

    /** What has no room or can not be where all is full, and where some is. */
    private static void otherReasons() {
        CHECK.sentence(39, "FULL where there is no room: changing nothing but STATUS", ALL + """
            flitch(0, 0, 1) = FULL | flitch(5, 24, 20) = FULL | family(0, 0, 0, 1) = FULL | family(5, 1, 24, 99) = FULL
            type(0) = FULL | type(127) = FULL | seen(0, 0, 0) = FULL | seen(6, 60, 1) = FULL
            note(0, 1, 0, 0, 0) = FULL | note(2, 20, 8, 99, 60) = FULL | mark(0, 0, 0, 0) = FULL
            mark(6, 60, 99, 40) = FULL | status(0) = 0 | status(1) = 0 | status(2) = 12
            """);
        CHECK.sentence(39, "NO as told: changing nothing but STATUS", ALL + """
            goes(6, 2) = NO | goes(0, 0) = NO | turnip(1) = NO | brothers(0, 1) = NO | brothers(1, 0) = NO
            brothers(0, 2) = NO | brothers(0, 0) = NO | status(0) = 0 | status(1) = 7 | status(2) = 0
            """, SOME + """
            from(0) = NO | goes(0, 4) = NO | turnip(1) = NO | brothers(0, 1) = NO | brothers(1, 2) = NO | status(1) = 5
            undo() | undo() | undo() | undo() = 0 | undo() = NO | undo() = NO | status(1) = 7
            """, "undo() = NO | from(0) = NO | from(1) = NO | status(1) = 3");
        CHECK.sentence(39, "the first of: BAD, NO, FULL", ALL + """
            goes(7, 0) = BAD | goes(0, 25) = BAD | turnip(7) = BAD | brothers(1, 7) = BAD | brothers(7, 1) = BAD
            brothers(7, 7) = BAD | flitch(0, 0, 0) = BAD | family(0, 0, 0, 0) = BAD | type(128) = BAD
            seen(1, 61, 1) = BAD | note(3, 1, 0, 0, 0) = BAD | mark(0, 0, 0, 41) = BAD | status(0) = 12
            status(1) = 0 | status(2) = 0
            """);
    }

    public static void main(String[] args) {
        new RefusalTest(0, 0).refuse("a new object", "");
        new RefusalTest(3, 2).refuse("one that has some", SOME);
        new RefusalTest(7, 3).refuse("one that has all", ALL);
        otherReasons();
        CHECK.end("RefusalTest");
    }
}
