/** What the tests ask of texts, each on a new object. */
class Checks {

    static String times(String s, int n) {
        StringBuilder b = new StringBuilder();
        for (int i = 0; i < n; i++) {
            b.append(s);
        }
        return b.toString();
    }

    static void fault(String text, String want) {
        Press p = new Press();
        Press.due("ask " + text, p.ask(text, 500, false), want.equals("none") ? p.press.told(0) : -1);
        Press.due("fault of " + text, p.fault(), want);
    }

    static void loadFault(String text, String want) {
        Press p = new Press();
        int n = p.load(text);
        Press.due("fault of program " + text, p.fault(), want);
        Press.due("load " + text, n == -1, !want.equals("none"));
    }

    /** What a question gives, as it is written; "end k" for an END. */
    static String gives(Press p, String text, int steps, boolean erased) {
        int n = p.ask(text, steps, erased);
        return n == -1 ? "fault " + p.fault() : n > 0 ? "end " + n : p.value();
    }

    static void gives(String text, String want) {
        Press.due(text, gives(new Press(), text, 500, false), want);
    }

    static void givesWith(String program, String text, String want) {
        Press p = new Press();
        p.load(program);
        Press.due(text, gives(p, text, 500, false), want);
    }

    static void told(String program, String text, int steps, boolean erased, String want) {
        Press p = new Press();
        if (!program.isEmpty()) {
            p.load(program);
            Press.due("fault of program " + program, p.fault(), "none");
        }
        p.ask(text, steps, erased);
        Press.due("fault of " + text, p.fault(), "none");
        Press.due("told of " + text + " in " + steps + (erased ? " erased" : ""), p.told(), want);
    }

    static void typed(String text, String want) {
        Press p = new Press();
        p.ask(text, 500, false);
        Press.due("type of " + text, p.type(0, 7), want);
    }

    /** A TOKEN ends where the text does, whatever the TAPE has behind it. */
    static void cut(String text, int n, String want) {
        Press p = new Press();
        p.feed(text);
        int end = p.press.ask(n, 9, false);
        Press.due(n + " bytes of " + text, end == -1 ? "fault " + p.fault() : p.value(), want);
    }
}
