import java.lang.reflect.Method;
import java.util.ArrayList;
import java.util.LinkedHashMap;
import java.util.List;
import java.util.Map;
import java.util.Random;

/** The same calls, drawn by fixed seeds, go to the class and to the model; each answer and digest must be alike. */
public final class ModelTest {

    private static final int RUNS = 800;

    /** What an object answers behind so many calls is free; the digest asked behind each call is one, too. */
    private static final int MOST_CALLS = 512;

    private static final int KIND = 0, CELL = 1, STRENGTH = 2, SIDE = 3, WILL = 4, FLITCH = 5, FAMILY = 6, DAYS = 7,
        BEHIND = 8, FAR = 9, STEP = 10, WIND = 11, SEED = 12, WHAT = 13, FEW = 14, BYTE = 15, SCENT = 16, LOSS = 17,
        DATE = 18, PARTNER = 19, PAIR = 20;

    private static final int[][] RANGE = {
        {0, 5}, {0, 24}, {1, 20}, {0, 1}, {1, 99}, {0, 2}, {0, 6}, {1, 60}, {0, 60}, {0, 8}, {-3, 9}, {0, 10},
        {0, 999999}, {0, 10}, {0, 6}, {0, 127}, {0, 60}, {0, 40}, {0, 99}, {-1, 6}, {0, 1}};

    private static final Map<String, int[]> FACE = new LinkedHashMap<>();

    static {
        FACE.put("parish", new int[] {});
        FACE.put("flitch", new int[] {KIND, CELL, STRENGTH});
        FACE.put("family", new int[] {KIND, SIDE, CELL, WILL});
        FACE.put("type", new int[] {BYTE});
        FACE.put("clear", new int[] {});
        FACE.put("read", new int[] {});
        FACE.put("days", new int[] {DAYS});
        FACE.put("goes", new int[] {FAMILY, CELL});
        FACE.put("turnip", new int[] {FAMILY});
        FACE.put("outs", new int[] {FLITCH});
        FACE.put("undo", new int[] {});
        FACE.put("of", new int[] {FAMILY, FEW});
        FACE.put("about", new int[] {FLITCH, FEW});
        FACE.put("smell", new int[] {CELL, BEHIND});
        FACE.put("then", new int[] {FAMILY, BEHIND});
        FACE.put("when", new int[] {FAMILY});
        FACE.put("right", new int[] {});
        FACE.put("ends", new int[] {PAIR});
        FACE.put("way", new int[] {CELL, CELL, STEP});
        FACE.put("home", new int[] {FAMILY});
        FACE.put("quiet", new int[] {DAYS});
        FACE.put("marry", new int[] {PARTNER});
        FACE.put("seen", new int[] {FAMILY, BEHIND, SIDE});
        FACE.put("wills", new int[] {FAMILY, FLITCH});
        FACE.put("note", new int[] {FLITCH, STRENGTH, FAR, DATE, SCENT});
        FACE.put("mark", new int[] {FAMILY, SCENT, DATE, LOSS});
        FACE.put("forget", new int[] {FLITCH});
        FACE.put("is", new int[] {FLITCH});
        FACE.put("look", new int[] {FLITCH});
        FACE.put("kinds", new int[] {FAMILY});
        FACE.put("ask", new int[] {FAMILY});
        FACE.put("brothers", new int[] {FAMILY, FAMILY});
        FACE.put("mornings", new int[] {FAMILY, FEW, WIND});
        FACE.put("years", new int[] {SEED, BEHIND});
        FACE.put("part", new int[] {PAIR});
        FACE.put("image", new int[] {PAIR});
        FACE.put("from", new int[] {PAIR});
        FACE.put("status", new int[] {FLITCH});
        FACE.put("count", new int[] {WHAT});
        FACE.put("digest", new int[] {});
    }

    private static final int[] ODD = {-10, -5, -4, -3, -2, -1, 0, 1, 7, 25, 60, 61, 99, 100, 128, 150, 1000000,
        Integer.MAX_VALUE, Integer.MIN_VALUE};

    private final Random random;
    private final Check check;
    private final RasherCase x = new RasherCase();
    private final Model model = new Model();
    private final List<String> log = new ArrayList<>();
    private int calls;

    private ModelTest(long seed, Check check) {
        this.random = new Random(seed);
        this.check = check;
    }

    private int draw(int low, int high) {
        return low + random.nextInt(high - low + 1);
    }

    private int argument(int range) {
        int low = RANGE[range][0];
        int high = RANGE[range][1];
        int luck = random.nextInt(60);
        if (luck == 0) {
            return ODD[random.nextInt(ODD.length)];
        }
        if (luck == 1) {
            return low - 1;
        }
        if (luck == 2) {
            return high + 1;
        }
        return luck < 8 ? low : luck < 14 ? high : draw(low, high);
    }

    private boolean goesOn() {
        return calls + 2 <= MOST_CALLS;
    }

    private void call(String name, int... numbers) throws ReflectiveOperationException {
        if (goesOn()) {
            answer(name, numbers);
            calls++;
            check.due("digest behind " + log.get(log.size() - 1), x.digest(), model.digest());
        }
    }

    private void answer(String name, int... numbers) throws ReflectiveOperationException {
        calls++;
        Class<?>[] types = new Class<?>[numbers.length];
        Object[] boxed = new Object[numbers.length];
        StringBuilder words = new StringBuilder(name).append('(');
        for (int at = 0; at < numbers.length; at++) {
            types[at] = int.class;
            boxed[at] = numbers[at];
            words.append(at == 0 ? "" : ", ").append(numbers[at]);
        }
        words.append(')');
        Method ours = RasherCase.class.getMethod(name, types);
        Method due = Model.class.getMethod(name, types);
        long got = ((Number) ours.invoke(x, boxed)).longValue();
        long want = ((Number) due.invoke(model, boxed)).longValue();
        log.add(words + " = " + got);
        if (got != want) {
            System.out.println("ahead of it: " + log.subList(Math.max(0, log.size() - 60), log.size()));
        }
        check.due(words.toString(), got, want);
    }

    private void drawCall() throws ReflectiveOperationException {
        List<String> names = new ArrayList<>(FACE.keySet());
        String name = names.get(random.nextInt(names.size()));
        if (name.equals("parish") && random.nextInt(8) != 0) {
            name = "marry";
        }
        if (name.equals("days") && random.nextInt(3) != 0) {
            call("days", draw(1, 4));
            return;
        }
        if (name.equals("note") && random.nextInt(3) != 0) {
            noteThatFits();
            return;
        }
        if (name.equals("mark") && random.nextInt(3) != 0) {
            markThatFits();
            return;
        }
        int[] ranges = FACE.get(name);
        int[] numbers = new int[ranges.length];
        for (int at = 0; at < ranges.length; at++) {
            numbers[at] = argument(ranges[at]);
        }
        call(name, numbers);
    }

    private void noteThatFits() throws ReflectiveOperationException {
        int s = draw(1, 20);
        int f = draw(0, 8);
        int d = draw(0, 30);
        call("note", draw(0, 2), s, f, d, Model.FLITCHES[draw(0, 5)].smell(s, f, d));
    }

    private void markThatFits() throws ReflectiveOperationException {
        int scent = draw(0, 30);
        int d = draw(0, 30);
        call("mark", draw(0, 6), scent, d, Model.FAMILIES[draw(0, 5)].takes(scent, d));
    }

    private void settle() throws ReflectiveOperationException {
        int flitches = draw(0, 3);
        int families = draw(0, 7);
        int strongest = random.nextBoolean() ? 20 : 6;
        int about = draw(1, 90);
        for (int k = 0; k < flitches; k++) {
            call("flitch", draw(0, 5), draw(0, 24), draw(1, strongest));
        }
        for (int i = 0; i < families; i++) {
            call("family", draw(0, 5), draw(0, 1), draw(0, 24), draw(about, about + 9));
        }
    }

    private void tellText() throws ReflectiveOperationException {
        StringBuilder text = new StringBuilder(random.nextInt(12) == 0 ? "" : "parish;");
        int items = draw(0, 16);
        for (int item = 0; item < items; item++) {
            int which = random.nextInt(10);
            if (which < 3) {
                text.append("flitch ").append(draw(0, 5)).append(' ').append(draw(0, 24)).append(' ')
                    .append(draw(1, 20)).append(';');
            } else if (which < 7) {
                text.append("family ").append(draw(0, 5)).append(' ').append(draw(0, 1)).append("  ")
                    .append(draw(0, 24)).append(' ').append(draw(1, 99)).append(';');
            } else if (which < 9) {
                text.append("out ").append(draw(0, 2)).append(" ; ");
            } else {
                text.append("days").append(draw(1, 9)).append(';');
            }
        }
        spoil(text);
        call("clear");
        for (int at = 0; at < text.length(); at++) {
            call("type", text.charAt(at));
        }
        call("read");
    }

    private void spoil(StringBuilder text) {
        if (random.nextInt(3) == 0 && text.length() > 0) {
            int at = random.nextInt(text.length());
            String odd = "; 0129azA-_~\t";
            char c = odd.charAt(random.nextInt(odd.length()));
            switch (random.nextInt(3)) {
                case 0:
                    text.setCharAt(at, c);
                    break;
                case 1:
                    text.insert(at, c);
                    break;
                default:
                    text.setLength(at);
                    break;
            }
        }
    }

    private void run() throws ReflectiveOperationException {
        settle();
        while (goesOn()) {
            int luck = random.nextInt(100);
            if (luck == 0) {
                tellText();
            } else if (luck == 1) {
                call("parish");
                settle();
            } else {
                drawCall();
            }
        }
    }

    private void toTheLastDay() throws ReflectiveOperationException {
        settle();
        for (int n = 0; n < 166; n++) {
            answer("days", 60);
        }
        for (int n = 0; n < 60; n++) {
            drawCall();
        }
        call("days", 60);
        call("days", 60);
        for (int what = 0; what < 11; what++) {
            call("count", what);
        }
        while (goesOn()) {
            drawCall();
        }
    }

    public static void main(String[] args) throws ReflectiveOperationException {
        Check check = new Check();
        check.due("names of the face", FACE.size(), 40);
        for (int run = 0; run < RUNS; run++) {
            check.promise(run, "drawn run, not a promise");
            new ModelTest(run, check).run();
        }
        for (int run = 0; run < 5; run++) {
            check.promise(run, "drawn run to the last day, not a promise");
            new ModelTest(1000 + run, check).toTheLastDay();
        }
        check.end("ModelTest");
    }
}
