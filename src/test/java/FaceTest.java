import java.io.IOException;
import java.lang.management.ManagementFactory;
import java.lang.reflect.Constructor;
import java.lang.reflect.Field;
import java.lang.reflect.Method;
import java.lang.reflect.Modifier;
import java.nio.file.Files;
import java.nio.file.Path;
import java.util.ArrayList;
import java.util.Arrays;
import java.util.List;
import java.util.Set;
import java.util.TreeSet;
import java.util.regex.Matcher;
import java.util.regex.Pattern;

/** The face of the document to the letter, the rules of LANGUAGE.md that can be looked up, and the room. */
public final class FaceTest {

    private static final Check CHECK = new Check();

    private static final String[] FACE = {
        "int parish()", "int flitch(int,int,int)", "int family(int,int,int,int)", "int type(int)", "int clear()",
        "int read()", "int days(int)", "int goes(int,int)", "int turnip(int)", "int outs(int)", "int undo()",
        "int of(int,int)", "int about(int,int)", "int smell(int,int)", "int then(int,int)", "int when(int)",
        "int right()", "int ends(int)", "int way(int,int,int)", "int home(int)", "int quiet(int)", "int marry(int)",
        "int seen(int,int,int)", "int wills(int,int)", "int note(int,int,int,int,int)", "int mark(int,int,int,int)",
        "int forget(int)", "int is(int)", "int look(int)", "int kinds(int)", "int ask(int)", "int brothers(int,int)",
        "int mornings(int,int,int)", "int years(int,int)", "long part(int)", "int image(int)", "int from(int)",
        "int status(int)", "int count(int)", "long digest()"};

    private static String words(Method m) {
        List<String> types = new ArrayList<>();
        for (Class<?> type : m.getParameterTypes()) {
            types.add(type.getSimpleName());
        }
        return m.getReturnType().getSimpleName() + " " + m.getName() + "(" + String.join(",", types) + ")";
    }

    private static void face() throws ReflectiveOperationException {
        Class<?> c = RasherCase.class;
        CHECK.holds("public and final", Modifier.isPublic(c.getModifiers()) && Modifier.isFinal(c.getModifiers()));
        Set<String> open = new TreeSet<>();
        Set<String> names = new TreeSet<>();
        for (Method m : c.getDeclaredMethods()) {
            if (!Modifier.isPrivate(m.getModifiers())) {
                open.add(words(m));
                names.add(m.getName());
                CHECK.holds(words(m) + " is public", Modifier.isPublic(m.getModifiers()));
            }
        }
        CHECK.holds("methods of the face: " + open, open.equals(new TreeSet<>(Arrays.asList(FACE))));
        for (Constructor<?> k : c.getDeclaredConstructors()) {
            CHECK.holds("one public constructor", Modifier.isPublic(k.getModifiers()) && k.getParameterCount() == 0);
        }
        Set<String> fields = new TreeSet<>();
        for (Field f : c.getDeclaredFields()) {
            if (!Modifier.isPrivate(f.getModifiers())) {
                fields.add(f.getName() + " " + f.getInt(null));
            }
            CHECK.holds(f.getName() + ": no static state",
                !Modifier.isStatic(f.getModifiers()) || Modifier.isFinal(f.getModifiers()));
        }
        CHECK.holds("constants: " + fields,
            fields.equals(new TreeSet<>(List.of("NONE -1", "BAD -2", "NO -3", "FULL -4"))));
        for (Class<?> inside : c.getDeclaredClasses()) {
            inside(inside, names);
        }
    }

    private static void inside(Class<?> c, Set<String> names) {
        CHECK.holds(c.getName() + " is static", Modifier.isStatic(c.getModifiers()));
        CHECK.holds(c.getName() + " is not public",
            !Modifier.isPublic(c.getModifiers()) && !Modifier.isProtected(c.getModifiers()));
        CHECK.holds(c.getName() + " has some twenty fields at most", c.getDeclaredFields().length <= 24);
        for (Method m : c.getDeclaredMethods()) {
            CHECK.holds(c.getName() + "." + m.getName() + " bears no name of the face", !names.contains(m.getName()));
            CHECK.holds(m.getName() + " takes seven at most", m.getParameterCount() <= 7);
        }
    }

    private static void language() throws IOException {
        Path path = Path.of("src/main/java/RasherCase.java");
        String source = Files.readString(path);
        String code = source.replaceAll("(?s)/\\*.*?\\*/", " ").replaceAll("//[^\n]*", " ");
        String[] ruledOut = {"\\bthrow\\b", "\\bthrows\\b", "\\btry\\b", "\\bcatch\\b", "\\bsynchronized\\b",
            "\\bassert\\b", "->", "::", "\\bimport\\b", "\\bpackage\\b", "\\bprotected\\b", "Exact\\b", "\\bhashCode\\b",
            "\\btoString\\b", "static\\s*\\{", "\\bpublic\\s+static\\s+(?!final\\b)", "\\bSystem\\.(?!arraycopy)"};
        for (String out : ruledOut) {
            CHECK.holds("no " + out, !Pattern.compile(out).matcher(code).find());
        }
        for (int at = 0; at < source.length(); at++) {
            char sign = source.charAt(at);
            if (sign != '\n' && (sign < 32 || sign > 126)) {
                CHECK.due("sign at " + at, sign, ' ');
            }
        }
        int classes = code.split("\\bclass\\b", -1).length - 1;
        CHECK.holds(classes + " classes, some twelve at most", classes <= 12);
        methodsAreShort(code);
        recursionIsStatic(code);
    }

    /** Rule 8: a method that calls itself is private and static. A call on another object has a dot ahead of it. */
    private static void recursionIsStatic(String code) {
        Matcher head = Pattern.compile("\n( {4}| {8})([a-z][\\w\\[\\] ]*?) (\\w+)\\([^()]*\\) \\{\n").matcher(code);
        int methods = 0;
        while (head.find()) {
            methods++;
            int end = code.indexOf("\n" + head.group(1) + "}", head.end() - 1);
            String body = end < 0 ? "" : code.substring(head.end() - 1, end);
            boolean callsItself = Pattern.compile("(?<![.\\w])" + head.group(3) + "\\(").matcher(body).find();
            CHECK.holds(head.group(3) + " calls itself, so it is private and static",
                !callsItself || head.group(2).startsWith("private static "));
        }
        CHECK.holds(methods + " methods were looked at", methods > 100);
    }

    private static void methodsAreShort(String code) {
        int begun = -1;
        String[] lines = code.split("\n");
        for (int line = 0; line < lines.length; line++) {
            String trimmed = lines[line].trim();
            if (trimmed.endsWith("{") && trimmed.contains("(") && lines[line].matches(" {4}( {4})?\\w.*")
                && !trimmed.startsWith("if ") && !trimmed.startsWith("for ") && !trimmed.startsWith("switch ")) {
                begun = line;
            }
            if (begun >= 0 && trimmed.equals("}")) {
                CHECK.holds("the method that ends at line " + (line + 1) + " is short", line - begun <= 60);
            }
        }
    }

    /** Calls make nothing new, so a run's room is what its constructors take. */
    private static void room() {
        com.sun.management.ThreadMXBean threads =
            (com.sun.management.ThreadMXBean) ManagementFactory.getThreadMXBean();
        RasherCase[] ready = new RasherCase[50];
        for (int n = 0; n < ready.length; n++) {
            ready[n] = new RasherCase();
            useAll(ready[n]);
        }
        long self = Thread.currentThread().getId();
        long before = threads.getThreadAllocatedBytes(self);
        for (RasherCase x : ready) {
            useAll(x);
        }
        long taken = threads.getThreadAllocatedBytes(self) - before;
        CHECK.holds(taken + " bytes for 50 rounds of calls", taken < 20000);
        before = threads.getThreadAllocatedBytes(self);
        RasherCase last = ready[0];
        for (int n = 0; n < 100; n++) {
            last = new RasherCase();
        }
        taken = (threads.getThreadAllocatedBytes(self) - before) / 100;
        CHECK.holds(taken + " bytes an object", taken < 12000 && last.count(0) == 0);
    }

    private static long useAll(RasherCase x) {
        long sum = x.parish() + x.clear();
        String text = "parish;flitch 5 7 19;flitch 3 24 20;family 3 1 12 90;days 3;out 1;";
        for (int at = 0; at < text.length(); at++) {
            sum += x.type(text.charAt(at));
        }
        sum += x.read() + x.flitch(1, 2, 3) + x.family(5, 0, 3, 99) + x.family(4, 1, 3, 97);
        sum += x.goes(0, 3) + x.turnip(0) + x.outs(1) + x.days(1) + x.undo() + x.of(0, 5) + x.about(0, 3);
        sum += x.smell(3, 60) + x.then(0, 60) + x.when(1) + x.right() + x.ends(0) + x.ends(1) + x.way(0, 24, 3);
        sum += x.home(0) + x.quiet(60) + x.marry(1) + x.seen(0, 9, 1) + x.wills(0, 2) + x.note(0, 9, 1, 1, 6);
        sum += x.mark(0, 9, 1, 3) + x.is(0) + x.look(0) + x.kinds(0) + x.ask(0) + x.brothers(0, 1) + x.mornings(0, 6, 3);
        sum += x.years(77, 60) + x.part(0) + x.image(0) + x.from(0) + x.status(0) + x.count(5) + x.forget(1);
        return sum + x.digest();
    }

    public static void main(String[] args) throws ReflectiveOperationException, IOException {
        face();
        language();
        room();
        CHECK.end("FaceTest");
    }
}
