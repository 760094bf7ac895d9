/** A CodePress that takes texts, and counts what is not as due. */
final class Press {
    static int checks = 0;
    static int wrong = 0;

    final CodePress press = new CodePress();

    static void due(String what, Object got, Object want) {
        checks++;
        if (!String.valueOf(got).equals(String.valueOf(want))) {
            wrong++;
            if (wrong <= 40) {
                System.out.println(what + "\n  answered " + got + "\n  due is   " + want);
            }
        }
    }

    static void finish(String name) {
        System.out.println(name + ": " + checks + " checks, " + wrong + " wrong");
        if (wrong != 0) {
            System.exit(1);
        }
    }

    /** The text, then blanks up to the next twenty bytes. */
    void feed(String text) {
        for (int i = 0; i < text.length(); i += 20) {
            press.feed(four(text, i), four(text, i + 4), four(text, i + 8), four(text, i + 12), four(text, i + 16));
        }
    }

    static int four(String text, int from) {
        int n = 0;
        for (int i = from; i < from + 4; i++) {
            n = n << 8 | (i < text.length() ? text.charAt(i) & 255 : 32);
        }
        return n;
    }

    int load(String text) {
        feed(text);
        return press.load(text.length());
    }

    int ask(String text, int steps, boolean erased) {
        feed(text);
        return press.ask(text.length(), steps, erased);
    }

    String out() {
        StringBuilder b = new StringBuilder();
        for (int i = 0; i < press.count(2); i++) {
            b.append((char) press.out(i));
        }
        return b.toString();
    }

    String value() {
        int n = press.value();
        String s = n == -1 ? null : out();
        if (s != null && s.length() != n) {
            return "value() answered " + n + " for " + s;
        }
        return s;
    }

    String type(int what, int k) {
        int n = press.type(what, k);
        String s = n == -1 ? null : out();
        if (s != null && s.length() != n) {
            return "type() answered " + n + " for " + s;
        }
        return s;
    }

    /** "kind at place", or "none". */
    String fault() {
        int k = press.fault(0);
        return k == 0 && press.fault(1) == -1 ? "none" : k + " at " + press.fault(1);
    }

    String told() {
        StringBuilder b = new StringBuilder();
        for (int i = 0; i < 8; i++) {
            b.append(i > 0 ? " " : "").append(press.told(i));
        }
        return b.toString();
    }
}
