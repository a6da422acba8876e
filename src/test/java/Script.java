import java.lang.reflect.Method;
import java.util.HashMap;
import java.util.Map;
import java.util.Set;

/**
 * A run of calls told as lines, several of them parted by |, each a call with the answer due or without one:
 * <pre>
 *   family(0, 1, 24, 9) = 0 | goes(0, 24) = NO | way(0, 25, 0) = -10 BAD | 166 x days(60)
 *   text parish;days 3;
 *   read() = 2
 * </pre>
 * The calls go to a RasherCase and to the model, which must answer alike. A twin is given the calls that change
 * something, but neither those refused nor those that only ask; in the end both are asked all that can be
 * asked, so a refused call or a question that changed anything is found, whatever it changed.
 */
final class Script {

    /** What an object answers behind so many calls is free, so no test may go beyond. */
    private static final int MOST_CALLS = 512;

    private static final String[] REASONS = {"BAD", "NO", "FULL"};

    private static final Set<String> QUESTIONS = Set.of("of", "about", "smell", "then", "when", "right", "ends",
        "way", "home", "quiet", "marry", "wills", "is", "look", "kinds", "ask", "brothers", "years", "part",
        "status", "count", "digest");

    private static final Map<String, Method> OURS = methods(RasherCase.class);
    private static final Map<String, Method> THEIRS = methods(Model.class);

    private final Check check;
    private final RasherCase x = new RasherCase();
    private final RasherCase twin = new RasherCase();
    private final Model model = new Model();
    private final int[] refused = new int[3];
    private int calls;

    Script(Check check) {
        this.check = check;
    }

    private static Map<String, Method> methods(Class<?> type) {
        Map<String, Method> byName = new HashMap<>();
        for (Method m : type.getDeclaredMethods()) {
            if (java.lang.reflect.Modifier.isPublic(m.getModifiers())) {
                byName.put(m.getName(), m);
            }
        }
        return byName;
    }

    void run(String lines) {
        for (String line : lines.split("\n")) {
            if (line.startsWith("text ")) {
                write(line.substring(5));
            } else {
                for (String part : line.split("\\|")) {
                    if (!part.isBlank()) {
                        tell(part.strip());
                    }
                }
            }
        }
        compare();
    }

    private void write(String text) {
        ask("clear", new Object[0], "clear()", null, -1);
        for (int at = 0; at < text.length(); at++) {
            ask("type", new Object[] {(int) text.charAt(at)}, "type", (long) at + 1, -1);
        }
    }

    private void tell(String part) {
        int times = 1;
        String rest = part;
        if (part.matches("[0-9]+ x .*")) {
            times = Integer.parseInt(part.substring(0, part.indexOf(' ')));
            rest = part.substring(part.indexOf('x') + 1).strip();
        }
        int equals = rest.indexOf('=');
        String call = equals < 0 ? rest : rest.substring(0, equals).strip();
        String answer = equals < 0 ? "" : rest.substring(equals + 1).strip();
        String name = call.substring(0, call.indexOf('('));
        Object[] numbers = numbers(call.substring(call.indexOf('(') + 1, call.indexOf(')')));
        for (int time = 0; time < times; time++) {
            ask(name, numbers, call, due(answer), reason(answer));
        }
    }

    private static Object[] numbers(String words) {
        if (words.isBlank()) {
            return new Object[0];
        }
        String[] parts = words.split(",");
        Object[] numbers = new Object[parts.length];
        for (int at = 0; at < parts.length; at++) {
            String word = parts[at].strip();
            numbers[at] = word.equals("MIN") ? Integer.MIN_VALUE
                : word.equals("MAX") ? Integer.MAX_VALUE : Integer.parseInt(word);
        }
        return numbers;
    }

    private static Long due(String answer) {
        if (answer.isEmpty()) {
            return null;
        }
        switch (answer.split(" ")[0]) {
            case "NONE":
                return -1L;
            case "BAD":
                return -2L;
            case "NO":
                return -3L;
            case "FULL":
                return -4L;
            default:
                return Long.parseLong(answer.split(" ")[0]);
        }
    }

    private static int reason(String answer) {
        for (int at = 0; at < REASONS.length; at++) {
            if (answer.equals(REASONS[at]) || answer.endsWith(" " + REASONS[at])) {
                return at;
            }
        }
        return -1;
    }

    private static long answer(Object of, Map<String, Method> face, String name, Object[] numbers) {
        try {
            return ((Number) face.get(name).invoke(of, numbers)).longValue();
        } catch (ReflectiveOperationException e) {
            throw new IllegalStateException(name + " failed", e);
        }
    }

    private long asked(String name, Object[] numbers) {
        calls++;
        return answer(x, OURS, name, numbers);
    }

    private void ask(String name, Object[] numbers, String call, Long due, int reason) {
        long got = asked(name, numbers);
        if (due != null) {
            check.due(call, got, due);
        }
        check.due("the model and " + call, answer(model, THEIRS, name, numbers), got);
        if (reason >= 0) {
            refused[reason]++;
        } else if (!QUESTIONS.contains(name) && !(name.equals("read") && got < 0)) {
            check.due(call + " by a twin that was spared what was refused", answer(twin, OURS, name, numbers), got);
        }
    }

    private void compare() {
        for (int what = 0; what < 3; what++) {
            check.due("status(" + what + ") in the end", asked("status", new Object[] {what}), refused[what]);
            check.due("status(" + what + ") of the twin", twin.status(what), 0);
        }
        askBoth("digest");
        for (int what = 0; what <= 10; what++) {
            askBoth("count", what);
        }
        askBoth("part", 0);
        askBoth("part", 1);
        askFacts(x.count(0), x.count(1));
        askAhead();
        goBackAll();
        for (int image = 0; image < 2; image++) {
            askBoth("from", image);
            askBoth("digest");
            goBackAll();
        }
        askBoth("read");
        askBoth("digest");
        check.holds("at most " + MOST_CALLS + " calls, not " + (calls + 2), calls + 2 <= MOST_CALLS);
    }

    private void askFacts(int families, int flitches) {
        for (int i = 0; i < families; i++) {
            for (int what = 0; what <= 5; what++) {
                askBoth("of", i, what);
            }
            askBoth("kinds", i);
            askBoth("wills", i, 0);
            askBoth("when", i);
        }
        for (int k = 0; k < flitches; k++) {
            for (int what = 0; what <= 3; what++) {
                askBoth("about", k, what);
            }
            askBoth("is", k);
        }
    }

    private void askAhead() {
        for (int c = 0; c < 25; c += 6) {
            askBoth("smell", c, 0);
            askBoth("smell", c, 60);
        }
        askBoth("right");
        askBoth("ends", 0);
        askBoth("quiet", 60);
        askBoth("marry", -1);
        askBoth("way", 0, 24, -2);
        askBoth("years", 7, 60);
    }

    /** Undoing all shows what was kept for it, not only how much. */
    private void goBackAll() {
        for (int time = 0; time < 9; time++) {
            long day = asked("undo", new Object[0]);
            check.due("undo() by the twin", twin.undo(), day);
            if (day < 0) {
                return;
            }
            askBoth("digest");
        }
        check.holds("8 at most may be undone", false);
    }

    private void askBoth(String name, Object... numbers) {
        check.due(name + java.util.Arrays.toString(numbers) + " in the end, and by the twin",
            asked(name, numbers), answer(twin, OURS, name, numbers));
    }
}
