/** The promises call by call: what is refused and changes nothing, what is told and when, and each form that is written. */
public final class CallEdgesTest extends Checks {

    static final int[] FAR = {-1, -2, -100, Integer.MIN_VALUE, Integer.MAX_VALUE, 1000, 21, 4097, 65536};

    /** All that can be asked of an object without changing more than OUT. */
    static String state(Press p) {
        StringBuilder b = new StringBuilder(p.told());
        for (int what = 0; what < 4; what++) {
            if (what != 2) {
                b.append(" | ").append(p.press.count(what));
            }
        }
        for (int k = 0; k < p.press.count(0); k++) {
            b.append(" | ").append(p.type(1, k));
        }
        return b.append(" | ").append(p.value()).append(" | ").append(p.type(0, 0)).toString();
    }

    static Press used() {
        Press p = new Press();
        p.load("def f(x:int,y:bool):int=if y then x else 0-x;def g(c:code int):code int={~c+1};");
        p.ask("({1+2},(g {5},f 3 true))", 500, false);
        p.feed("1+1 is more than nothing");
        return p;
    }

    // ---- "What is refused (NONE, -2) changes nothing but what is told."

    interface Call {
        int of(CodePress c);
    }

    static void refused(String what, Call call, int answer) {
        Press p = used();
        String before = state(p);
        p.value();
        String out = p.out();
        Press.due(what, call.of(p.press), answer);
        Press.due("OUT behind " + what, p.out(), out);
        Press.due("all behind " + what, state(p), before);
        Press.due("fault behind " + what, p.fault(), "none");
        Press.due("the TAPE behind " + what, p.press.ask(3, 0, false), 0);
        Press.due("the TAPE behind " + what, p.value(), "2");
    }

    static void refusals() {
        for (int n : new int[] {-1, -40, 41, 42, 60, 3000, 3001, Integer.MAX_VALUE, Integer.MIN_VALUE}) {
            refused("load(" + n + ")", c -> c.load(n), -2);
            refused("ask(" + n + ")", c -> c.ask(n, 500, false), -2);
            refused("ask(" + n + ") erased", c -> c.ask(n, 0, true), -2);
        }
        for (int steps : new int[] {-1, 501, Integer.MAX_VALUE, Integer.MIN_VALUE}) {
            refused("ask(3, " + steps + ")", c -> c.ask(3, steps, false), -2);
            refused("ask(99, " + steps + ")", c -> c.ask(99, steps, true), -2);
            refused("ask(0, " + steps + ")", c -> c.ask(0, steps, true), -2);
        }
        for (int k : new int[] {-1, 2, 3, 16, Integer.MAX_VALUE, Integer.MIN_VALUE}) {
            refused("type(1, " + k + ")", c -> c.type(1, k), -1);
        }
        for (int what : new int[] {-1, 2, 3, Integer.MAX_VALUE, Integer.MIN_VALUE}) {
            refused("type(" + what + ", 0)", c -> c.type(what, 0), -1);
            refused("type(" + what + ", 1)", c -> c.type(what, 1), -1);
            refused("fault(" + what + ")", c -> c.fault(what), -1);
        }
        for (int what : FAR) {
            refused("told(" + what + ")", c -> c.told(what), -1);
            refused("count(" + what + ")", c -> c.count(what), -1);
            refused("out(" + what + ")", c -> c.out(what), -1);
        }
        refused("told(8)", c -> c.told(8), -1);
        refused("count(4)", c -> c.count(4), -1);
    }

    /** A text with a FAULT: it is told, the TAPE is empty, all else stays. */
    static void faulty(String text, boolean program, String fault) {
        Press p = used();
        p.press.ask(0, 0, false);
        String before = state(p);
        p.value();
        String out = p.out();
        Press.due(text, program ? p.load(text) : p.ask(text, 9, false), -1);
        Press.due("its FAULT: " + text, p.fault(), fault);
        Press.due("OUT behind " + text, p.out(), out);
        Press.due("all behind " + text, state(p), before);
        Press.due("the TAPE behind " + text, p.press.count(1), 0);
        Press.due("the DEFS behind " + text, gives(p, "f 4 false", 9, false), "-4");
        Press.due("its FAULT is told no more", p.fault(), "none");
    }

    static void faults() {
        faulty("", false, "1 at 0");
        faulty("1+", false, "1 at 2");
        faulty("nobody", false, "2 at 0");
        faulty("close a=close in 1,a=1 in 1", false, "3 at 19");
        faulty("1+true", false, "4 at 1");
        faulty("~1", false, "5 at 0");
        faulty(times("(", 25), false, "6 at 24");
        faulty(times("(1,", 20) + "1" + times(")", 20), false, "7 at 0");
        faulty("!", true, "1 at 0");
        faulty("def h(x:int):int=nobody;", true, "2 at 17");
        faulty("def h(x:int):int=f x true;", true, "2 at 17");
        faulty("def h(x:int):int=x;def h(x:int):int=x;", true, "3 at 23");
        faulty("def h(x:int):bool=x;", true, "4 at 4");
        faulty("def h(x:int):bool=~x;", true, "5 at 18");
        faulty("def h(a:int,b:int,c:int,d:int,e:int):int=1;", true, "6 at 30");
        faulty("def h(x:" + times("(", 20) + "int" + times(",int)", 20) + "):int=1;", true, "7 at 6");
        // the DEFS that came ahead of the FAULT are not taken either
        faulty("def one(x:int):int=x;def two(x:int):int=x;def three(x:int):int=nobody;", true, "2 at 63");
    }

    // ---- feed and count(1)

    static void feeds() {
        Press p = new Press();
        for (int i = 1; i <= 150; i++) {
            Press.due("feed " + i, p.press.feed(-1, 0, i, Integer.MAX_VALUE, Integer.MIN_VALUE), 20 * i);
            Press.due("count(1)", p.press.count(1), 20 * i);
        }
        for (int i = 0; i < 3; i++) {
            Press.due("feed of too much", p.press.feed(1, 1, 1, 1, 1), -1);
            Press.due("count(1)", p.press.count(1), 3000);
        }
        Press.due("the first byte", p.press.ask(3000, 1, false), -1);
        Press.due("the first byte", p.fault(), "1 at 0");
        Press.due("count(1)", p.press.count(1), 0);
        Press.due("feed again", p.press.feed(1, 1, 1, 1, 1), 20);
        Press.due("load of 21", p.press.load(21), -2);
        Press.due("ask of 21", p.press.ask(21, 1, true), -2);
        Press.due("count(1)", p.press.count(1), 20);
        Press.due("load of none", p.press.load(0), 0);
        Press.due("count(1)", p.press.count(1), 0);
        Press.due("load of none again", p.press.load(0), 0);
        Press.due("load of one", p.press.load(1), -2);
        Press.due("ask of one", p.press.ask(1, 1, false), -2);
        Press.due("ask of none", p.press.ask(0, 1, false), -1);
    }

    // ---- load

    static void loads() {
        Press p = new Press();
        Press.due("one", p.load("def a(x:int):int=x;"), 1);
        Press.due("a", gives(p, "a 1", 9, false), "1");
        Press.due("its own alone", p.load("def b(x:int):int=x+1;def c(x:int):int=b (b x);"), 2);
        Press.due("a is known no more", gives(p, "a 1", 9, false), "fault 2 at 0");
        Press.due("c", gives(p, "c 1", 9, false), "3");
        Press.due("the same NAME anew", p.load("def c(x:bool):bool=x;"), 1);
        Press.due("c", gives(p, "c true", 9, false), "true");
        Press.due("c", p.type(1, 0), "bool->bool");
        Press.due("a refused one", p.load("def d(x:int):int=x;def e(x:int):int=c x;"), -1);
        Press.due("count", p.press.count(0), 1);
        Press.due("c is there", gives(p, "c false", 9, false), "false");
        Press.due("d isn't", gives(p, "d 1", 9, false), "fault 2 at 0");
        Press.due("a second refused one", p.load("def c(x:int):int=x;def c(x:int):int=x;"), -1);
        Press.due("c is there", gives(p, "c false", 9, false), "false");
        Press.due("many refused ones", p.load("def c(x:int):int=("), -1);
        Press.due("c is there", gives(p, "(c false,{c true})", 9, false), "(false,{(c true)})");
        // a part of the TAPE
        p.feed("def z(x:int):int=x;def y(x:int):int=x;");
        Press.due("its first 19 bytes", p.press.load(19), 1);
        Press.due("the rest is gone", p.press.count(1), 0);
        Press.due("z", gives(p, "z 5", 9, false), "5");
        p.feed("def z(x:int):int=x;");
        Press.due("18 bytes", p.press.load(18), -1);
        Press.due("18 bytes", p.fault(), "1 at 18");
        // the empty PROGRAM
        Press.due("blanks", p.load("  \n "), 0);
        Press.due("no DEFS", p.press.count(0), 0);
        Press.due("no DEFS", p.press.type(1, 0), -1);
        Press.due("z is gone", gives(p, "z 5", 9, false), "fault 2 at 0");
    }

    // ---- fault

    static void faultTells() {
        Press p = new Press();
        Press.due("ahead of any", p.press.fault(0) + " " + p.press.fault(1), "0 -1");
        p.ask("1+", 9, false);
        Press.due("of ask", p.press.fault(0) + " " + p.press.fault(1), "1 2");
        p.press.ask(-1, 9, false);
        p.press.load(99);
        p.press.ask(0, 501, false);
        Press.due("-2 is not told", p.press.fault(0) + " " + p.press.fault(1), "1 2");
        p.load("def f(x:int):int=x;");
        Press.due("of load", p.press.fault(0) + " " + p.press.fault(1), "0 -1");
        p.load("def f(x:int):int=y;");
        Press.due("of load", p.press.fault(0) + " " + p.press.fault(1), "2 17");
        p.ask("1/0", 9, false);
        Press.due("an END is no FAULT", p.press.fault(0) + " " + p.press.fault(1), "0 -1");
        p.ask("x", 9, false);
        Press.due("at 0", p.press.fault(0) + " " + p.press.fault(1), "2 0");
        p.feed("1");
        p.press.value();
        p.press.type(0, 0);
        p.press.out(0);
        p.press.count(0);
        p.press.told(0);
        Press.due("other calls don't matter", p.press.fault(0) + " " + p.press.fault(1), "2 0");
        p.press.load(0);
        Press.due("an empty load", p.press.fault(0) + " " + p.press.fault(1), "0 -1");
    }

    // ---- told

    static void tells() {
        Press p = new Press();
        Press.due("ahead of any", p.told(), "-1 0 0 0 -1 0 0 0");
        p.ask("nobody", 9, false);
        p.load("def f(x:int):int=x;");
        Press.due("a FAULT and a load are none", p.told(), "-1 0 0 0 -1 0 0 0");
        p.ask("0-5", 9, false);
        Press.due("an int", p.told(), "0 0 0 0 0 -5 0 0");
        p.ask("0", 9, false);
        Press.due("an int", p.told(), "0 0 0 0 0 0 0 0");
        p.ask("0-1", 9, false);
        Press.due("an int", p.told(), "0 0 0 0 0 -1 0 0");
        p.ask("0-2147483647-1", 9, false);
        Press.due("an int", p.told(), "0 0 0 0 0 -2147483648 0 0");
        p.ask("true", 9, false);
        Press.due("a truth", p.told(), "0 0 0 0 1 1 0 0");
        p.ask("false", 9, false);
        Press.due("a truth", p.told(), "0 0 0 0 1 0 0 0");
        p.ask("(7,8)", 9, false);
        Press.due("a pair", p.told(), "0 1 0 0 2 0 0 0");
        p.ask("fn x:int.7", 9, false);
        Press.due("a FUNCTION", p.told(), "0 1 0 0 3 0 0 0");
        p.ask("f", 9, false);
        Press.due("a FUNCTION", p.told(), "0 0 0 0 3 0 0 0");
        p.ask("{7+8}", 9, false);
        Press.due("a CODE", p.told(), "0 0 3 0 4 0 3 2");
        p.ask("close in {7+8}", 9, false);
        Press.due("a BOX", p.told(), "0 1 3 0 5 0 0 0");
        p.ask("({7+8},1)", 9, false);
        Press.due("a pair", p.told(), "0 1 3 0 2 0 0 0");
        p.ask("f 9", 1, false);
        Press.due("an int", p.told(), "0 1 0 1 0 9 0 0");
        p.ask("f 9", 0, false);
        Press.due("END 1", p.told(), "1 0 0 0 -1 0 0 0");
        p.ask("1/0", 0, false);
        Press.due("END 4", p.told(), "4 0 0 0 -1 0 0 0");
        String told = p.told();
        p.ask("1/", 0, false);
        p.press.ask(77, 1, false);
        p.load("def g(x:int):int=x;");
        p.load("def");
        p.feed("1");
        Press.due("as it was", p.told(), told);
        for (int what : FAR) {
            Press.due("told(" + what + ")", p.press.told(what), -1);
        }
        Press.due("told(8)", p.press.told(8), -1);
        Press.due("told(7)", p.press.told(7), 0);
    }

    // ---- type

    static void typesAreWritten() {
        String[] types = {"int", "bool", "code int", "box bool", "code code int", "box code box int", "(int,bool)", "((int,int),bool)",
            "(int,(int,bool))", "int->int", "int->int->int", "(int->int)->int", "(int->int)->int->int", "int->(int,int)",
            "(int,int)->int", "code (int->int)", "box (int->int)", "code (int,bool)", "(int->int,int)", "(int,int->int)",
            "code int->int", "code (int->code int)->box int", "(code int,box (bool->bool))", "((int->int)->int)->int",
            "box code (int->int->int)", "(int->int)->(int->int)->int", "code ((int->int)->int)", "((int->int,bool)->int,code box int)"};
        for (String t : types) {
            typed("fn x:" + t + ".1", (t.contains("->") && isArrow(t) ? "(" + t + ")" : t) + "->int");
            typed("rec f(x:int):" + t + ".f x", "int->" + t);
            Press p = new Press();
            p.load("def f(x:" + t + ",y:bool):" + t + "=x;");
            String sort = isArrow(t) ? "(" + t + ")" : t;
            Press.due("type of a DEF", p.type(1, 0), sort + "->bool->" + t);
            // with blanks and brackets that aren't needed
            String loose = t.replace(",", " , ").replace("->", "\n-> ").replace("int", "((int))");
            typed("fn x : (" + loose + ") . 1", sort + "->int");
        }
        // that question's TYPE, whatever k is, and whatever it answered
        Press p = new Press();
        p.ask("1/0", 9, false);
        for (int k : FAR) {
            Press.due("type(0, " + k + ")", p.type(0, k), "int");
        }
        p.ask("(1,true)", 0, false);
        Press.due("of an END 1", p.type(0, 0), "(int,bool)");
        p.ask("(1,", 0, false);
        p.ask("(1,~2)", 0, false);
        p.press.ask(0, -1, false);
        Press.due("not of a FAULT", p.type(0, 0), "(int,bool)");
        p.load("def f(x:int):int=x;");
        Press.due("not of a load", p.type(0, 0), "(int,bool)");
        Press.due("how many bytes", p.press.type(0, 0), 10);
        Press.due("OUT", p.press.count(2), 10);
        Press.due("how many bytes", p.press.type(1, 0), 8);
        Press.due("OUT", p.press.count(2), 8);
    }

    /** Whether a -> stands outside of all brackets. */
    static boolean isArrow(String t) {
        int deep = 0;
        for (int i = 0; i < t.length(); i++) {
            deep += t.charAt(i) == '(' ? 1 : t.charAt(i) == ')' ? -1 : 0;
            if (deep == 0 && t.startsWith("->", i)) {
                return true;
            }
        }
        return false;
    }

    // ---- value

    static void valuesAreWritten() {
        String[][] all = {{"0", "0"}, {"00", "0"}, {"007", "7"}, {"0-7", "-7"}, {"0-2147483647-1", "-2147483648"}, {"2147483647", "2147483647"},
            {"1000000000", "1000000000"}, {"10", "10"}, {"999999999", "999999999"}, {"true", "true"}, {"1==2", "false"}, {"(1,true)", "(1,true)"},
            {"((0-1,2),(false,fn x:int.x))", "((-1,2),(false,fn))"}, {"rec f(x:int):int.x", "fn"}, {"d", "fn"}, {"dd 1", "fn"},
            {"close in 1", "box 1"}, {"close in close in (0-1,true)", "box box (-1,true)"}, {"(close in 1,close in {2})", "(box 1,box {2})"},
            {"close in fn x:int.x", "box fn"}, {"{0000000000}", "{0}"}, {"{0010}", "{10}"}, {"{2147483647}", "{2147483647}"}, {"{true}", "{true}"},
            {"{false}", "{false}"}, {"{1+2}", "{(1+2)}"}, {"{1-2}", "{(1-2)}"}, {"{1*2}", "{(1*2)}"}, {"{1/2}", "{(1/2)}"}, {"{1%2}", "{(1%2)}"},
            {"{1==2}", "{(1==2)}"}, {"{1<2}", "{(1<2)}"}, {"{d 1}", "{(d 1)}"}, {"{dd 1 2}", "{((dd 1) 2)}"}, {"{(1,2)}", "{(1,2)}"},
            {"{((1))}", "{1}"}, {"{fn x:int.x}", "{(fn x0:int.x0)}"}, {"{fn x:(int->int)->code int.1}", "{(fn x0:(int->int)->code int.1)}"},
            {"{rec f(x:int):bool.f x}", "{(rec x0(x1:int):bool.(x0 x1))}"}, {"{rec f(x:int->int):int->int.x}", "{(rec x0(x1:int->int):int->int.x1)}"},
            {"{let x=1 in x}", "{(let x0=1 in x0)}"}, {"{if true then 1 else 2}", "{(if true then 1 else 2)}"}, {"{close in 1}", "{(close in 1)}"},
            {"{close a=close in 1 in a}", "{(close x0=(close in 1) in x0)}"},
            {"{close a=close in 1,b=close in 2 in (b,a)}", "{(close x0=(close in 1),x1=(close in 2) in (x1,x0))}"}, {"{{1}}", "{{1}}"},
            {"{{~{1}}}", "{{(~{1})}}"}, {"{run (close in {1})}", "{(run (close in {1}))}"}, {"{open (close in 1)}", "{(open (close in 1))}"},
            {"{fst (1,2)}", "{(fst (1,2))}"}, {"{snd (1,2)}", "{(snd (1,2))}"}, {"{x0 1}", "{(x0 1)}"}, {"{fn y:int.x0 y}", "{(fn x0:int.(x0 x0))}"}};
        for (String[] a : all) {
            Press p = new Press();
            p.load("def d(x:int):int=x;def dd(x:int,y:int):int=y;def x0(x:int):int=x;");
            Press.due(a[0], gives(p, a[0], 500, false), a[1]);
            Press.due("bytes of " + a[0], p.press.value(), a[1].length());
            Press.due("OUT of " + a[0], p.press.count(2), a[1].length());
        }
    }

    /** "others x0, x1, .. in the order in which they are told in it, from the left". */
    static void namesAreWritten() {
        gives("{let a=let b=1 in b in let c=a in c}", "{(let x0=(let x1=1 in x1) in (let x2=x0 in x2))}");
        gives("{(fn a:int.a) ((fn a:int.a) 1)}", "{((fn x0:int.x0) ((fn x1:int.x1) 1))}");
        gives("{fn a:int.rec b(c:int):int.let d=c in a+b d}", "{(fn x0:int.(rec x1(x2:int):int.(let x3=x2 in (x0+(x1 x3)))))}");
        gives("{close a=close in let q=1 in q,b=close in let r=2 in r in let s=a in (s,b)}",
            "{(close x0=(close in (let x2=1 in x2)),x1=(close in (let x3=2 in x3)) in (let x4=x0 in (x4,x1)))}");
        gives("{close a=close c=close in 1 in open c in a}", "{(close x0=(close x1=(close in 1) in (open x1)) in x0)}");
        gives("{(let a=1 in a,let b=2 in b)}", "{((let x0=1 in x0),(let x1=2 in x1))}");
        gives("{if let a=true in a then let b=1 in b else let c=2 in c}",
            "{(if (let x0=true in x0) then (let x1=1 in x1) else (let x2=2 in x2))}");
        gives("{{fn a:int.~{fn b:int.b}}}", "{{(fn x0:int.(~{(fn x1:int.x1)}))}}");
        // each CODE from x0 on
        gives("({fn a:int.a},({fn a:int.fn b:int.b},close in {let c=1 in c}))",
            "({(fn x0:int.x0)},({(fn x0:int.(fn x1:int.x1))},box {(let x0=1 in x0)}))");
        // x9, x10, x11
        StringBuilder text = new StringBuilder("{");
        StringBuilder want = new StringBuilder("{");
        for (int i = 0; i < 13; i++) {
            text.append("let a").append(i).append("=1 in ");
            want.append("(let x").append(i).append("=1 in ");
        }
        gives(text + "a9+a10+a12}", want + "((x9+x10)+x12)" + times(")", 13) + "}");
        // the same CODE at two places has NAMES of its own at each
        gives("let c={fn a:int.a} in {((~c) 1,fn z:int.(~c) z)}", "{(((fn x0:int.x0) 1),(fn x1:int.((fn x2:int.x2) x1)))}");
    }

    /** That question's value, and none where there is none. */
    static void valueTells() {
        Press p = new Press();
        Press.due("ahead of any", p.press.value(), -1);
        p.ask("12", 9, false);
        Press.due("12", p.press.value(), 2);
        p.ask("1 2", 9, false);
        p.ask("1+", 9, false);
        p.press.ask(5, 5, false);
        p.press.load(0);
        Press.due("still", p.value(), "12");
        p.type(0, 0);
        Press.due("OUT", p.out(), "int");
        p.ask("1/0", 9, false);
        Press.due("an END has none", p.press.value(), -1);
        Press.due("OUT stays", p.out(), "int");
        p.ask("(1,2)", 0, false);
        Press.due("an END has none", p.press.value(), -1);
        p.ask("345", 9, false);
        Press.due("345", p.value(), "345");
        Press.due("again", p.value(), "345");
    }

    // ---- out

    static void outs() {
        Press p = new Press();
        for (int i : FAR) {
            Press.due("empty at first", p.press.out(i), -1);
        }
        Press.due("empty at first", p.press.out(0), -1);
        p.ask("(0-12,true)", 9, false);
        Press.due("not by asking", p.press.out(0), -1);
        Press.due("bytes", p.press.value(), 10);
        String want = "(-12,true)";
        for (int i = -3; i < 14; i++) {
            Press.due("out(" + i + ")", p.press.out(i), i >= 0 && i < 10 ? (int) want.charAt(i) : -1);
        }
        Press.due("bytes", p.press.type(0, 0), 10);
        Press.due("out(1)", p.press.out(1), (int) 'i');
        p.ask("7", 9, false);
        Press.due("OUT is as it was", p.out(), "(int,bool)");
        Press.due("bytes", p.press.value(), 1);
        Press.due("out(0)", p.press.out(0), (int) '7');
        Press.due("what was longer is gone", p.press.out(1), -1);
        Press.due("count(2)", p.press.count(2), 1);
    }

    // ---- count

    static void counts() {
        Press p = new Press();
        int gave = 0;
        String[] texts = {"1", "1/0", "1+", "nobody", "(1,2)", "{1}", "true"};
        for (int round = 0; round < 8; round++) {
            for (String t : texts) {
                int end = p.ask(t, round % 2, round % 4 < 2);
                gave += end == 0 ? 1 : 0;
                Press.due("questions that gave a value", p.press.count(3), gave);
            }
        }
        Press.due("some", gave, 8 * 3 + 4);
        p.load("def f(x:int):int=x;");
        Press.due("a load is none", p.press.count(3), gave);
        Press.due("DEFS", p.press.count(0), 1);
        Press.due("TAPE", p.press.count(1), 0);
        Press.due("OUT", p.press.count(2), 0);
    }

    // ---- "An object is used for at most 512 calls"

    static void allCalls() {
        Press p = new Press();
        p.load("def it(n:int):code int=if n<1 then {0} else {n+~(it (n-1))};");
        int calls = 5;
        for (int round = 0; calls + 6 <= 512; round++) {
            int n = round % 55;
            p.press.feed(Press.four("open (run (close in ", 0), Press.four("open (run (close in ", 4), Press.four("open (run (close in ", 8),
                Press.four("open (run (close in ", 12), Press.four("open (run (close in ", 16));
            String rest = "it " + n + "))";
            p.press.feed(Press.four(rest, 0), Press.four(rest, 4), Press.four(rest, 8), Press.four(rest, 12), Press.four(rest, 16));
            Press.due("round " + round, p.press.ask(40, 500, false), 0);
            Press.due("value of round " + round, p.press.told(5), n * (n + 1) / 2);
            Press.due("PARTS of round " + round, p.press.told(2), 4 * n + 2);
            Press.due("bytes of round " + round, p.press.value(), String.valueOf(n * (n + 1) / 2).length());
            calls += 6;
        }
        Press.due("calls", calls > 506, true);
    }

    /** Two objects know nothing of one another. */
    static void twoObjects() {
        Press p = new Press();
        Press q = new Press();
        p.load("def f(x:int):int=x+1;");
        q.load("def f(x:bool):bool=x;");
        p.ask("{f 1}", 9, false);
        q.ask("f true", 9, false);
        Press.due("p", p.value(), "{(f 1)}");
        Press.due("q", q.value(), "true");
        Press.due("p", p.type(1, 0), "int->int");
        Press.due("q", q.type(1, 0), "bool->bool");
        Press.due("OUT of p", p.out(), "int->int");
    }

    public static void main(String[] args) {
        refusals();
        faults();
        feeds();
        loads();
        faultTells();
        tells();
        typesAreWritten();
        valuesAreWritten();
        namesAreWritten();
        valueTells();
        outs();
        counts();
        allCalls();
        twoObjects();
        Press.finish("CallEdgesTest");
    }
}
