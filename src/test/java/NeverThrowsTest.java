/** Calls in any order with any arguments: none may throw, and what is promised of all of them holds. */
public final class NeverThrowsTest {

    static final String[] BITS = {"def ", "f", "g", "x", "y", "(", ")", "{", "}", ",", ";", ":", ".", "=", "==", "<", "+", "-",
        "*", "/", "%", "~", "->", "fn ", "rec ", "let ", "in ", "if ", "then ", "else ", "close ", "run ", "open ", "fst ",
        "snd ", "true ", "false ", "int", "bool", "code ", "box ", "1", "0", "2147483647", " ", "\n", "\u0000", "\u00ff", "f x",
        "{x}", "(1,2)", "fn x:int.x", "let x=1 in ", "x:int", "def f(x:int):int=x;", "~x ", "close x=close in 1 in "};

    static String text(Maker m) {
        StringBuilder b = new StringBuilder();
        for (int n = m.pick(m.chance(10) ? 900 : 25); n > 0; n--) {
            b.append(BITS[m.pick(BITS.length)]);
        }
        return b.length() > 3000 ? b.substring(0, 3000) : b.toString();
    }

    static int any(Maker m) {
        switch (m.pick(6)) {
            case 0:
                return Integer.MAX_VALUE - m.pick(2);
            case 1:
                return Integer.MIN_VALUE + m.pick(2);
            case 2:
                return m.pick(4000) - 500;
            default:
                return m.pick(12) - 2;
        }
    }

    static void life(long seed) {
        Maker m = new Maker(seed);
        Press p = new Press();
        CodePress c = p.press;
        for (int calls = 0; calls < 512; calls++) {
            int tape = c.count(1);
            int defs = c.count(0);
            String told = p.told();
            switch (m.pick(9)) {
                case 0:
                    int fed = c.feed(any(m), any(m), any(m), any(m), any(m));
                    Press.due("feed", fed, tape + 20 > 3000 ? -1 : tape + 20);
                    break;
                case 1:
                    p.feed(text(m));
                    break;
                case 2: {
                    int n = m.chance(80) ? tape - m.pick(20) : any(m);
                    int got = c.load(n);
                    boolean refused = n < 0 || n > tape;
                    Press.due("load refused", got == -2, refused);
                    Press.due("DEFS", c.count(0), got < 0 ? defs : got);
                    Press.due("TAPE", c.count(1), refused ? tape : 0);
                    Press.due("told stays", p.told(), told);
                    break;
                }
                case 3:
                case 4: {
                    int n = m.chance(80) ? tape - m.pick(20) : any(m);
                    int steps = m.chance(90) ? m.pick(501) : any(m);
                    int got = c.ask(n, steps, m.chance(30));
                    boolean refused = n < 0 || n > tape || steps < 0 || steps > 500;
                    Press.due("ask refused", got == -2, refused);
                    Press.due("TAPE", c.count(1), refused ? tape : 0);
                    if (got < 0) {
                        Press.due("told stays", p.told(), told);
                    } else {
                        Press.due("told(0)", c.told(0), got);
                    }
                    break;
                }
                case 5:
                    int size = c.type(any(m), any(m));
                    Press.due("OUT", size == -1 || size == c.count(2), true);
                    break;
                case 6:
                    int written = c.value();
                    Press.due("OUT", written == -1 || written == c.count(2), true);
                    break;
                case 7:
                    c.out(any(m));
                    c.told(any(m));
                    break;
                default:
                    c.fault(any(m));
                    c.count(any(m));
            }
        }
    }

    public static void main(String[] args) {
        long to = args.length > 0 ? Long.parseLong(args[0]) : 400;
        for (long seed = 1; seed <= to; seed++) {
            life(seed);
        }
        Press.finish("NeverThrowsTest");
    }
}
