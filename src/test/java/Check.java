/** Counts answers that are not the ones due, and ends the program with 1 if there was one. */
final class Check {

    private int asked;
    private int wrong;
    private String promise = "";

    void promise(int number, String name) {
        promise = "promise " + number + " (" + name + ")";
    }

    /** A sentence of the document with the calls that show it. */
    void sentence(int number, String words, String... scripts) {
        promise(number, words);
        for (String script : scripts) {
            new Script(this).run(script);
        }
    }

    void due(String call, long got, long want) {
        asked++;
        if (got != want) {
            wrong++;
            if (wrong <= 200) {
                System.out.println(promise + ": " + call + " answered " + got + ", due is " + want);
            }
        }
    }

    void holds(String what, boolean so) {
        due(what, so ? 1 : 0, 1);
    }

    void end(String test) {
        System.out.println(test + ": " + asked + " answers, " + wrong + " not as due");
        if (wrong != 0 || asked == 0) {
            System.exit(1);
        }
    }

    static void write(RasherCase x, String text) {
        x.clear();
        for (int at = 0; at < text.length(); at++) {
            x.type(text.charAt(at));
        }
    }

    static int told(RasherCase x, String text) {
        write(x, text);
        return x.read();
    }
}
