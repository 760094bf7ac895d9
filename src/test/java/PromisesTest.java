/** The promises one by one: ordinary inputs, the edges that the document names, wrong inputs. */
public final class PromisesTest extends Checks {

    static final String POWER = "def pow(n:int,x:code int):code int=if n<1 then {1} else {~x * ~(pow (n-1) x)};"
        + "def mk(n:int):code (int->int)={fn y:int.~(pow n {y})};";

    // ---- promise 1

    static void newObject() {
        Press p = new Press();
        Press.due("new: fault", p.fault(), "none");
        Press.due("new: fault(2)", p.press.fault(2), -1);
        Press.due("new: fault(-1)", p.press.fault(-1), -1);
        Press.due("new: told", p.told(), "-1 0 0 0 -1 0 0 0");
        Press.due("new: value", p.press.value(), -1);
        Press.due("new: type 0", p.press.type(0, 0), -1);
        Press.due("new: type 1", p.press.type(1, 0), -1);
        Press.due("new: out", p.press.out(0), -1);
        for (int what = -1; what <= 4; what++) {
            Press.due("new: count(" + what + ")", p.press.count(what), what < 0 || what > 3 ? -1 : 0);
        }
        for (int what : new int[] {-1, 8, Integer.MAX_VALUE, Integer.MIN_VALUE}) {
            Press.due("new: told(" + what + ")", p.press.told(what), -1);
            Press.due("new: fault(" + what + ")", p.press.fault(what), -1);
            Press.due("new: out(" + what + ")", p.press.out(what), -1);
            Press.due("new: count(" + what + ")", p.press.count(what), -1);
            Press.due("new: type(" + what + ")", p.press.type(what, what), -1);
            Press.due("new: type(1, " + what + ")", p.press.type(1, what), -1);
            Press.due("new: load(" + what + ")", p.press.load(what), -2);
            Press.due("new: ask(" + what + ")", p.press.ask(what, 1, true), -2);
            if (what != 8) {
                Press.due("new: ask(0, " + what + ")", p.press.ask(0, what, true), -2);
            }
        }
        Press.due("NONE", CodePress.NONE, -1);
    }

    // ---- promise 2

    static void feed() {
        Press p = new Press();
        for (int i = 1; i <= 150; i++) {
            Press.due("feed " + i, p.press.feed(0x20202020, 0x20202020, 0x20202020, 0x20202020, 0x20202020), 20 * i);
        }
        Press.due("feed 151", p.press.feed(1, 2, 3, 4, 5), -1);
        Press.due("TAPE is full", p.press.count(1), 3000);
        Press.due("blanks are no E", p.press.ask(3000, 1, false), -1);
        Press.due("the end is told", p.fault(), "1 at 3000");
        Press.due("TAPE is empty", p.press.count(1), 0);
        // the highest byte comes first, and there are bytes above 127
        p = new Press();
        p.press.feed(0x312b322a, 0x3320ff00, 0x80000000, 0, 0);
        Press.due("7", p.press.ask(5, 0, false), 0);
        Press.due("7", p.value(), "7");
        p.press.feed(0x312b322a, 0x3320ff00, 0x80000000, 0, 0);
        Press.due("byte 255", p.press.ask(20, 0, false), -1);
        Press.due("byte 255", p.fault(), "1 at 6");
    }

    // ---- promise 3

    static void load() {
        Press p = new Press();
        p.feed("def a(x:int):int=x;");
        Press.due("load below 0", p.press.load(-1), -2);
        Press.due("load of more", p.press.load(21), -2);
        Press.due("TAPE stays", p.press.count(1), 20);
        Press.due("load", p.press.load(20), 1);
        Press.due("TAPE is empty", p.press.count(1), 0);
        Press.due("of the first bytes alone", p.load("def b(x:int):int=x;def c(x:int,y:bool):int=b x;"), 2);
        Press.due("type b", p.type(1, 0), "int->int");
        Press.due("type c", p.type(1, 1), "int->bool->int");
        Press.due("a is gone", gives(p, "a 1", 9, false), "fault 2 at 0");
        Press.due("a load with a FAULT", p.load("def b(x:int):bool=x;"), -1);
        Press.due("its FAULT", p.fault(), "4 at 4");
        Press.due("the DEFS stay", p.press.count(0), 2);
        Press.due("c is there", gives(p, "c 5 true", 9, false), "5");
        Press.due("-2 doesn't tell", p.press.load(99), -2);
        Press.due("-2 doesn't tell", p.fault(), "none");
        Press.due("no DEFS", p.load(""), 0);
        Press.due("no DEFS", p.press.count(0), 0);
        Press.due("only its own DEFS are known", p.load("def d(x:int):int=b x;"), -1);
        Press.due("only its own DEFS are known", p.fault(), "2 at 17");
        Press.due("sixteen", p.load(defs(16)), 16);
        Press.due("the last", gives(p, "p 3", 9, false), "3");
    }

    static String defs(int n) {
        StringBuilder b = new StringBuilder();
        for (int i = 0; i < n; i++) {
            b.append("def ").append((char) ('a' + i)).append("(x:int):int=x;");
        }
        return b.toString();
    }

    // ---- promise 4

    static void ask() {
        Press p = new Press();
        p.feed("1+1");
        Press.due("ask below 0", p.press.ask(-1, 1, false), -2);
        Press.due("ask of more", p.press.ask(21, 1, false), -2);
        Press.due("STEPS below 0", p.press.ask(3, -1, false), -2);
        Press.due("STEPS above 500", p.press.ask(3, 501, false), -2);
        Press.due("TAPE stays", p.press.count(1), 20);
        Press.due("nothing is told", p.told(), "-1 0 0 0 -1 0 0 0");
        Press.due("of the first byte alone", p.press.ask(1, 0, false), 0);
        Press.due("1", p.value(), "1");
        Press.due("TAPE is empty", p.press.count(1), 0);
        Press.due("an empty question", p.press.ask(0, 500, true), -1);
        Press.due("an empty question", p.fault(), "1 at 0");
        Press.due("told of the one ahead", p.told(), "0 0 0 0 0 1 0 0");
        Press.due("value of the one ahead", p.value(), "1");
        Press.due("an END", p.ask("1/0", 0, false), 4);
        Press.due("told of an END", p.told(), "4 0 0 0 -1 0 0 0");
        Press.due("an END has a TYPE", p.type(0, 0), "int");
        Press.due("an END has no value", p.value(), null);
        Press.due("OUT stays", p.out(), "int");
    }

    // ---- TOKENS, promise 5

    static void tokens() {
        gives("let abcdefgh=1 in abcdefgh", "1");
        fault("let abcdefghi=1 in 2", "1 at 4");
        gives("2147483647", "2147483647");
        fault("2147483648", "1 at 0");
        gives("0000000012", "12");
        fault("1+00000000012", "1 at 2");
        fault("99999999999999999999999", "1 at 0");
        gives("let fnx=1 in let in2=2 in fnx+in2", "3");
        gives("1\n+\n\n 2", "3");
        fault("1+\t2", "1 at 2");
        fault("X", "1 at 0");
        fault("1->2", "1 at 1");
        fault("1->", "1 at 1");
        fault("1==2==true", "1 at 4");
        fault("1===2", "1 at 3");
        fault("1<2<3", "1 at 3");
        fault("12ab", "2 at 2");
        fault("let x1=1 in x 1", "2 at 12");
        fault("1>2", "1 at 1");
        cut("1->2", 2, "fault 1 at 2");
        cut("1234", 2, "12");
        cut("let xy=1 in xyz", 14, "1");
        cut("1==1", 2, "fault 1 at 1");
        cut("1 (", 2, "1");
        for (String word : "def fn rec let in if then else close run open fst snd true false int bool code box".split(" ")) {
            fault("let " + word + "=1 in 1", "1 at 4");
        }
    }

    static void form() {
        fault("", "1 at 0");
        fault("   ", "1 at 3");
        fault("1+", "1 at 2");
        fault("1 + ", "1 at 4");
        fault("(1", "1 at 2");
        fault("(1,2,3)", "1 at 4");
        fault("()", "1 at 1");
        fault("1)", "1 at 1");
        fault("{1", "1 at 2");
        fault("1+fn x:int.x", "1 at 2");
        fault("f fn", "1 at 2");
        fault("run close in {1}", "1 at 4");
        fault("fn x.x", "1 at 4");
        fault("fn x:int->.x", "1 at 10");
        fault("fn x:code.x", "1 at 9");
        fault("fn x:(int,int,int).x", "1 at 13");
        fault("rec f(x:int).x", "1 at 12");
        fault("let x=1", "1 at 7");
        fault("if 1<2 then 3", "1 at 13");
        fault("close x in 1", "1 at 8");
        fault("close x=1, in 1", "1 at 11");
        fault("close", "1 at 5");
        fault("(close x=close in 1,2)", "1 at 20");
        fault("def f(x:int):int=1;", "1 at 0");
        loadFault("1", "1 at 0");
        loadFault("def f():int=1;", "1 at 6");
        loadFault("def f(x:int):int=1", "1 at 18");
        loadFault("def f(x:int):int=1;;", "1 at 19");
        loadFault("def f(x:int)=1;", "1 at 12");
        loadFault("def f(x:int,):int=1;", "1 at 12");
        loadFault("def fn(x:int):int=1;", "1 at 4");
        loadFault("def f(x:int):int=y;def", "1 at 22");
    }

    static void many() {
        // 800 TOKENS, 801 and 802; what has the wrong FORM is told ahead
        fault("1" + times("+1", 399) + "", "none");
        fault("1" + times("+1", 399) + "+", "1 at 800");
        fault("(1" + times("+1", 398) + ")", "none");
        fault("(1" + times("+1", 398) + ")+1", "6 at 800");
        fault("(1" + times("+1", 398) + ")+)", "1 at 800");
        fault("(1" + times("+1", 398) + ")  \n", "none");
        fault("1" + times("+1", 400), "6 at 800");
        loadFault(defs(17), "6 at " + (16 * 19 + 4));
        loadFault(defs(16) + "def ", "1 at " + (16 * 19 + 4));
        loadFault("def f(a:int,b:int,c:int,d:int):int=a+b+c+d;", "none");
        loadFault("def f(a:int,b:int,c:int,d:int,e:int):int=1;", "6 at 30");
        String kept = "a=close in 1,b=close in 1,c=close in 1,d=close in 1,e=close in 1,f=close in 1,g=close in 1,h=close in 1";
        fault("close " + kept + " in open h", "none");
        fault("close " + kept + ",i=close in 1 in 1", "6 at " + (7 + kept.length()));
        fault(times("(", 24) + "1" + times(")", 24), "none");
        fault(times("(", 25), "6 at 24");
        fault(times("(", 24) + "{", "6 at 24");
        fault(times("(", 23) + "run open", "6 at 27");
        fault(times("(", 24) + "1+(2)", "6 at 26");
        fault(times("(", 23) + "1+(2)+(3)" + times(")", 23), "none");
        fault(times("fst ", 25) + "1", "6 at 96");
        fault(times("let a=1 in ", 24) + "a", "none");
        fault(times("let a=1 in ", 25) + "a", "6 at 264");
        fault(times("fn x:int.", 25) + "1", "6 at 216");
        fault(times("(", 23) + "fn x:int->int.1", "6 at 31");
        fault(times("(", 22) + "fn x:int->int.1" + times(")", 22), "none");
        fault(times("(", 22) + "fn x:int->int->int.1", "6 at 35");
        fault(times("(", 22) + "fn x:(int->int)", "6 at 31");
        fault(times("(", 22) + "fn x:code box int.x", "6 at 32");
        fault(times("(", 23) + "rec f(x", "6 at 28");
        fault(times("if true then 1 else ", 25) + "1", "6 at 480");
        fault(times("close in ", 25) + "1", "6 at 216");
        loadFault("def f(x:" + times("(", 24), "6 at 31");
        loadFault("def f(x:int):" + times("(", 24) + "int" + times(")", 24) + "=1;", "none");
        // the first round goes ahead of the second
        fault("nobody+(", "1 at 8");
        fault("nobody+" + times("(", 25), "6 at 31");
    }

    static void secondRound() {
        fault("x", "2 at 0");
        fault("let x=x in 1", "2 at 6");
        fault("(fn x:int.x) x", "2 at 13");
        fault("rec f(x:int):int.y", "2 at 17");
        gives("let x=1 in let x=true in x", "true");
        gives("(rec f(f:int):int.f) 3", "3");
        fault("fn x:int.close in x", "2 at 18");
        fault("close x=close in 1,y=x in 1", "2 at 21");
        loadFault("def f(x:int):int=g x;def g(x:int):int=x;", "2 at 17");
        loadFault("def f(x:int):int=f x;def g(f:int):int=f;", "none");
        loadFault("def f(x:int):int=1;def f(x:int):int=y;", "3 at 23");
        loadFault("def f(x:int,y:int,x:bool):int=1;", "3 at 18");
        fault("close x=close in 1,x=2 in 1", "3 at 19");
        fault("close x=2,x=2 in 1", "4 at 6");
        fault("1+true", "4 at 1");
        fault("1==true", "4 at 1");
        fault("true<false", "4 at 4");
        fault("(1,2)==(1,2)", "4 at 5");
        fault("fst 1", "4 at 0");
        fault("1+snd {1}", "4 at 2");
        fault("1 (2)", "4 at 2");
        fault("(fn x:bool.x) 2", "4 at 14");
        fault("(fn x:bool.x)(1)", "4 at 13");
        fault("rec f(x:int):bool.x", "4 at 0");
        fault("if 1 then nobody else 2", "4 at 0");
        fault("if true then 1 else true", "4 at 15");
        fault("let x=1 in ~x", "5 at 11");
        fault("{~1}", "4 at 1");
        fault("open 1", "4 at 0");
        fault("run {1}", "4 at 0");
        fault("run (close in 1)", "4 at 0");
        loadFault("def f(x:int):bool=x;", "4 at 4");
        loadFault("def f(x:int):int=true+1;", "4 at 21");
        fault("{fn x:int.~x}", "5 at 11");
        fault("let x={1} in {x}", "5 at 14");
        fault("let f=fn x:int.x in {f 1}", "5 at 21");
        gives("let x=(1,true) in {{x}}", "{{(1,true)}}");
        fault("{let x={1} in {x}}", "5 at 15");
        gives("{let x=1 in {x}}", "{(let x0=1 in {x0})}");
        fault("{{{nobody}}}", "5 at 2");
        gives("{{~{3}}}", "{{(~{3})}}");
        fault("~nobody", "5 at 0");
        fault("{~~nobody}", "5 at 2");
        gives("{{~~{{4}}}}", "{{(~{4})}}");
    }

    static void wide() {
        String t39 = times("code ", 19) + "(" + times("code ", 18) + "int,int)";
        typed("fn x:int.x", "int->int");
        String p20 = times("(", 20) + "int" + times(",int)", 20);
        // 41 PARTS: 20 pairs and 21 ints
        fault("fn x:" + p20 + ".1", "7 at 3");
        fault("rec f(x:" + p20 + "):int.nobody", "7 at 6");
        fault("rec f(x:int):" + p20 + ".nobody", "7 at 4");
        String p18 = times("(", 18) + "int" + times(",int)", 18);
        // 37 PARTS: 39 with -> int, 40 with -> code int, 41 with -> a code of a code
        fault("fn x:" + p18 + ".1", "none");
        fault("fn x:" + p18 + ".{1}", "none");
        fault("fn x:" + p18 + ".{{1}}", "7 at 0");
        fault("1+(fn x:" + p18 + ".close in {1})", "7 at 3");
        fault("rec f(x:" + p18 + "):code code int.nobody", "7 at 4");
        fault("rec f(x:" + p18 + "):code int.nobody", "2 at " + (("rec f(x:" + p18 + "):code int.").length()));
        String p19 = "(" + p18 + ",int)";
        fault("(fn x:" + p19 + ".1,1)", "7 at 1");
        fault("{fn x:" + p18 + ".(1,1)}", "7 at 1");
        fault("{fn x:" + p18 + ".{1}}", "7 at 0");
        fault("close in fn x:" + p18 + ".{1}", "7 at 0");
        fault("((fn x:" + p18 + ".1),1)", "7 at 0");
        fault("1+fst ((fn x:" + p18 + ".1),1)", "7 at 6");
        loadFault("def f(x:int,y:" + p20 + ",y:int):int=1;", "7 at 12");
        loadFault("def f(x:int,x:" + p20 + "):int=1;", "3 at 12");
        loadFault("def f(x:" + p18 + "):int=x;", "4 at 4");
        loadFault("def f(x:" + p18 + "):(int,int)=x;", "7 at 4");
        loadFault("def f(x:" + p18 + "):code int={1};", "none");
        fault("fn x:" + t39 + ".1", "6 at 116");
    }

    // ---- promise 6, and what it is to work out

    static void working() {
        gives("1+2*3-4/3%2", "6");
        gives("2147483647+1", "-2147483648");
        gives("65536*65536", "0");
        gives("(0-7)/2", "-3");
        gives("(0-7)%2", "-1");
        gives("7%(0-2)", "1");
        gives("(0-2147483647-1)/(0-1)", "-2147483648");
        gives("(0-2147483647-1)%(0-1)", "0");
        gives("10-3-2", "5");
        gives("100/10/5", "2");
        gives("1+2==3", "true");
        gives("1+2==4", "false");
        gives("1+2*3<2*3+1+1", "true");
        gives("9-2*3-1==8/2/2", "true");
        gives("2*3%4*5-1-1*2+7", "14");
        gives("1<2-1*1", "false");
        gives("true==false", "false");
        gives("2<1+1", "false");
        gives("7%0", "end 4");
        gives("(1,(true,0-5))", "(1,(true,-5))");
        gives("fst (1,2)+snd (3,4)", "5");
        gives("fn x:int.x/0", "fn");
        gives("(fn f:int->int.f (f 2)) (fn x:int.x*x)", "16");
        gives("(rec f(n:int):int.if n<1 then 0 else n+f (n-1)) 9", "45");
        gives("let x=2 in let f=fn y:int.x+y in let x=50 in f x", "52");
        gives("close in (1,2)", "box (1,2)");
        gives("close a=close in 3,b=close in fn x:int.x in (open b) (open a)", "box 3");
        gives("open (close in 5)", "5");
        gives("run (close in {1+1})", "box 2");
        gives("run (close in {fn x:int.x})", "box fn");
        gives("open (run (close in {{1+1}}))", "{(1+1)}");
        gives("if 1<2 then 3 else 4/0", "3");
        gives("(fn x:int.3) (1/0)", "end 4");
        givesWith(POWER, "mk 3", "{(fn x0:int.(x0*(x0*(x0*1))))}");
        givesWith(POWER, "open (run (close in mk 5)) 2", "32");
        givesWith(POWER, "pow", "fn");
        givesWith("def f(a:int,b:int,c:int,d:int):int=a*1000+b*100+c*10+d;",
            "let g=f 1 2 in let h=g 3 in (h 4,(g 5 6,h 7))", "(1234,(1256,1237))");
    }

    static void steps() {
        told("", "1+2*3", 0, false, "0 0 0 0 0 7 0 0");
        told("", "true", 0, false, "0 0 0 0 1 1 0 0");
        told("", "(1,2)", 1, false, "0 1 0 0 2 0 0 0");
        told("", "(1,2)", 0, false, "1 0 0 0 -1 0 0 0");
        told("", "fn x:int.x", 1, false, "0 1 0 0 3 0 0 0");
        told("", "rec f(x:int):int.x", 0, false, "1 0 0 0 -1 0 0 0");
        told("", "let x=1 in x", 0, false, "1 0 0 0 -1 0 0 0");
        told("", "let x=1/0 in x", 0, false, "4 0 0 0 -1 0 0 0");
        told("", "(fn x:int.x) 1", 1, false, "1 1 0 0 -1 0 0 0");
        told("", "(fn x:int.x) 1", 2, false, "0 2 0 1 0 1 0 0");
        told("", "close in 1", 0, false, "1 0 0 0 -1 0 0 0");
        told("", "close in 1", 1, false, "0 1 0 0 5 0 0 0");
        // a close: a STEP for each NAME, then one for itself, behind all its E's
        told("", "close a=close in 1,b=close in 2 in 1/0", 5, false, "4 5 0 0 -1 0 0 0");
        told("", "close a=close in 1,b=close in 2 in 1/0", 4, false, "1 4 0 0 -1 0 0 0");
        told("", "close a=close in 1,b=close in 1/0 in 1", 3, false, "4 2 0 0 -1 0 0 0");
        told("def f(a:int,b:int):int=a;", "f 1", 5, false, "0 1 0 0 3 0 0 0");
        told("def f(a:int,b:int):int=a;", "f 1 2", 5, false, "0 2 0 1 0 1 0 0");
        told("", "run (close in {1+1})", 2, false, "0 2 6 1 5 0 0 0");
        told("", "run (close in {1+1})", 1, false, "1 1 3 0 -1 0 0 0");
        told("", "(rec f(x:int):int.f x) 1", 500, false, "2 101 0 100 -1 0 0 0");
        told("", "(rec f(x:int):int.f x) 1", 101, false, "1 101 0 100 -1 0 0 0");
        told("", "(rec f(x:int):int.if x<1 then 0 else f (x-1)) 99", 101, false, "0 101 0 100 0 0 0 0");
        told("", "(rec f(x:int):int.if x<1 then 0 else f (x-1)) 100", 500, false, "2 101 0 100 -1 0 0 0");
        // an APPLICATION of a DEF that wants more begins too, but is done at once
        told("def g(a:int,b:int):int=a;", "(rec f(x:int):int->int.if x<1 then g x else f (x-1)) 99 7", 500, false,
            "2 101 0 100 -1 0 0 0");
        told("def g(a:int,b:int):int=a;", "(rec f(x:int):int->int.if x<1 then g x else f (x-1)) 98 7", 500, false,
            "0 102 0 99 0 0 0 0");
        told("", "let d=rec f(n:int):int.if n<1 then 1 else f (n-1) in d 90+d 90+d 90+d 90+d 90", 500, false,
            "0 457 0 91 0 5 0 0");
        told("", "let d=rec f(n:int):int.if n<1 then 1 else f (n-1) in d 99+d 99+d 99+d 99+d 99", 500, false,
            "1 500 0 100 -1 0 0 0");
    }

    static void building() {
        told("", "{1}", 0, false, "0 0 1 0 4 0 1 1");
        told("", "{fn x:int.if x<1 then (x,2) else (3,4)}", 0, false, "0 0 11 0 4 0 11 4");
        told("", "{fst (1,2)+snd (3,4)*open (close in 5)}", 0, false, "0 0 13 0 4 0 13 5");
        told("", "{open (run (close in {6}))}", 0, false, "0 0 5 0 4 0 5 5");
        told("", "let x=0-5 in {x}", 9, false, "0 1 3 0 4 0 3 2");
        told("", "let x=0-2147483647-1 in {x}", 9, false, "0 1 5 0 4 0 5 3");
        told("", "{{~{1}}}", 9, false, "0 0 4 0 4 0 4 4");
        told("", "{~{~{~{1}}}}", 9, false, "0 0 1 0 4 0 1 1");
        told("", "let c={1+2} in {~c*~c}", 9, false, "0 1 4 0 4 0 7 3");
        // a PART counts as it begins: ahead of its own parts, behind what stands to the left of it
        told("", "{~(let x=1/0 in {1})==1+2}", 9, false, "4 0 1 0 -1 0 0 0");
        told("", "{~(let x=1/0 in {1})+2*3}", 9, false, "4 0 1 0 -1 0 0 0");
        told("", "{1+~(let x=1/0 in {1})*2}", 9, false, "4 0 3 0 -1 0 0 0");
        told("", "{4<1+~(let x=1/0 in {1})*2}", 9, false, "4 0 5 0 -1 0 0 0");
        told("", "{if ~(let x=1/0 in {true}) then 1 else 2}", 9, false, "4 0 1 0 -1 0 0 0");
        told("", "{let a=1 in (a,~(let x=1/0 in {1}))}", 9, false, "4 0 4 0 -1 0 0 0");
        told("", "{close a=close in 1 in fst (2,~(let x=1/0 in {1}))}", 9, false, "4 0 6 0 -1 0 0 0");
        told("", "{{~(~(let x=1/0 in {{1}}))}}", 9, false, "4 0 2 0 -1 0 0 0");
        told("", "{rec f(x:int):int.f (~(let x=1/0 in {1}))}", 9, false, "4 0 3 0 -1 0 0 0");
        gives("let x=0-5 in {x}", "{(0-5)}");
        gives("let x=0-2147483647-1 in {x+1}", "{(((0-2147483647)-1)+1)}");
        gives("let x=(true,(0,0-1)) in {x}", "{(true,(0,(0-1)))}");
        gives("{fn x:int.~(let f=fn c:code int.{fn x:int.~c+x} in {(~(f {x})) x})}",
            "{(fn x0:int.((fn x1:int.(x0+x1)) x0))}");
        gives("let c={fn x:int.x} in {(~c) ((~c) 1)}", "{((fn x0:int.x0) ((fn x1:int.x1) 1))}");
        gives("({fn x:int.x},{fn x:int.fn y:int.x})", "({(fn x0:int.x0)},{(fn x0:int.(fn x1:int.x0))})");
        gives("{let a=let b=1 in b in let c=a in c}", "{(let x0=(let x1=1 in x1) in (let x2=x0 in x2))}");
        gives("{close a=close in let q=1 in q,b=close in 2 in open a+open b}",
            "{(close x0=(close in (let x2=1 in x2)),x1=(close in 2) in ((open x0)+(open x1)))}");
        gives("{rec f(n:(int,bool)):int->int.f (if snd n then n else (1,true))}",
            "{(rec x0(x1:(int,bool)):int->int.(x0 (if (snd x1) then x1 else (1,true))))}");
        gives("{fn x:(int->int)->code (int->int).fn y:box box bool.run (close in {fst (007,true==false)})}",
            "{(fn x0:(int->int)->code (int->int).(fn x1:box box bool.(run (close in {(fst (7,(true==false)))}))))}");
        // what is run has its NAMES anew, and knows the DEFS
        gives("open (run (close in {let y=2 in {fn z:int.y+z}}))", "{(fn x0:int.(2+x0))}");
        gives("open (run (close in {fn x:int.let f=rec f(n:int):int.if n<1 then x else f (n-1) in f 3})) 8", "8");
        gives("open (run (close in {close k=close in 4,m=close in 5 in (open k,open m)}))", "box (4,5)");
        givesWith("def h(x:int):int=x*2;", "open (run (close in {h (h 3)}))", "12");
        givesWith("def h(x:int):int=x*2;", "{h}", "{h}");
    }

    static void full() {
        String it = "def it(n:int):code int=if n<1 then {0} else {n+~(it (n-1))};";
        // each round is two PARTS, a SIZE of two more, a HEIGHT of one more
        told(it, "it 58", 500, false, "0 59 117 59 4 0 117 59");
        told(it, "it 59", 500, false, "0 60 119 60 4 0 119 60");
        told(it, "it 60", 500, false, "3 61 121 61 -1 0 0 0");
        told(it, "{1+~(it 59)}", 500, false, "3 60 121 60 -1 0 0 0");
        String two = "let c={1+1} in let c={~c+~c} in let c={~c+~c} in let c={~c+~c} in let c={~c+~c} in let c={~c+~c} in ";
        // SIZE 127, then 199, 200 and 201
        told("", two + "{~c+(1" + times("+1", 35) + ")}", 500, false, "0 6 80 0 4 0 199 37");
        told("", two + "{fst (1,2)+~c+(1" + times("+1", 33) + ")}", 500, false, "0 6 81 0 4 0 200 35");
        told("", two + "{~c+(1" + times("+1", 36) + ")}", 500, false, "3 6 82 0 -1 0 0 0");
        told("", "{1" + times("+1", 149) + "}", 500, false, "3 0 299 0 -1 0 0 0");
        told("", "{1" + times("+1", 150) + "}", 500, false, "3 0 300 0 -1 0 0 0");
        // a { } of LEVEL 1 may be of any SIZE, the one around it not
        told("", "{{1" + times("+1", 120) + "}}", 500, false, "3 0 242 0 -1 0 0 0");
        // the 301st PART comes ahead of what stands behind it
        told("", "{1" + times("+1", 150) + "+~{1/0}}", 500, false, "3 0 300 0 -1 0 0 0");
        told("", "{1" + times("+1", 148) + "+~(let x=1/0 in {1})}", 500, false, "4 0 298 0 -1 0 0 0");
        // of a run all PARTS at once, behind its STEP
        String s36 = "(1" + times("+1", 36) + ")";
        String s37 = "(1" + times("+1", 37) + ")";
        told("", "open (run (close in {" + s37 + "*" + s36 + "}))", 500, false, "0 2 298 1 0 1406 0 0");
        told("", "open (run (close in {fst (" + s37 + "," + s36 + ")}))", 500, false, "0 3 300 1 0 38 0 0");
        told("", "run (close in {" + s37 + "*" + s37 + "})", 500, false, "3 2 151 1 -1 0 0 0");
        told("", "run (close in {" + s37 + "*" + s37 + "})", 1, false, "1 1 151 0 -1 0 0 0");
        told("", "let p=(1,(2,(3,(4,5)))) in {(p,(p,p))}", 500, false, "0 5 29 0 4 0 29 7");
        told("", "let p=(1,(2,(3,(4,0-5)))) in {(p,(p,(1" + times("+1", 132) + ")))}", 500, false, "3 5 289 0 -1 0 0 0");
        told("", "let p=(1,(2,(3,(4,0-5)))) in {(p,(1" + times("+1", 143) + ",p))}", 500, false, "3 5 300 0 -1 0 0 0");
    }

    /** Rooms that must hold what the limits of the document let come together. */
    static void rooms() {
        // a hundred E's that wait, with a long left side or with many values each
        String left = "def f(n:int):int=if n<1 then 0 else f (n-1)" + times("+1", 380) + ";";
        told(left, "f 99", 500, false, "0 100 0 100 0 " + 99 * 380 + " 0 0");
        told(left, "f 100", 500, false, "2 100 0 100 -1 0 0 0");
        String inner = "f (n-1) b";
        for (int i = 0; i < 22; i++) {
            inner = "close a=b,c=b,d=b,e=b,g=b,h=b,i=b,j=" + inner + " in open j";
        }
        String many = "def f(n:int,b:box int):box int=if n<1 then b else " + inner + ";";
        told(many, "f 99 (close in 1)", 500, false, "1 500 0 100 -1 0 0 0");
        told(many, "f 100 (close in 1)", 500, false, "2 201 0 100 -1 0 0 0");
        told(many, "f 2 (close in 1)", 500, false, "0 403 0 3 5 0 0 0");
        // many NAMES that count as no PARTS of their own
        String names = "def f(n:int,c:code box int):int=if n<1 then 0 else let z={close a=~c,b=~c,d=~c,e=~c,g=~c,h=~c,"
            + "i=~c,j=~c in 1} in 1+f (n-1) c;";
        told(names, "let c={close in 1} in f 60 c+f 60 c", 500, false, "0 365 242 61 0 120 0 0");
        told(names, "let c={close in 1} in f 75 c+f 80 c", 500, false, "3 452 300 76 -1 0 0 0");
        // the longest texts, of TOKENS that make most instructions
        fault("x" + times(" ~x", 399) + " x", "2 at 0");
        fault("{" + times("(close in 1) ", 159) + "1}", "4 at 14");
        gives("let f=fn x:int.1 in f 1" + times("+f 1", 262), "263");
        Press p = new Press();
        String row = "x:int,y:int,z:int";
        StringBuilder b = new StringBuilder();
        for (char c = 'a'; c <= 'p'; c++) {
            b.append("def ").append(c).append("(").append(row).append("):int=").append(c == 'a' ? "x" : "a x y z").append(";");
        }
        Press.due("sixteen DEFS", p.load(b.toString()), 16);
        Press.due("sixteen DEFS again", p.load(b.toString()), 16);
        Press.due("p", gives(p, "p 4 5 6", 9, false), "4");
    }

    /** One object, all its calls: nothing may be left over from one question to the next. */
    static void longLife() {
        Press p = new Press();
        p.load(POWER);
        int calls = 8;
        for (int i = 0; calls < 480; i++) {
            boolean erased = i % 3 == 2;
            String text = i % 2 == 0 ? "(rec f(n:int):int.if n<1 then 0 else 1+fst (f (n-1),2)) 80" : "open (run (close in mk 40)) 1";
            Press.due("round " + i, p.ask(text, 500, erased), 0);
            Press.due("round " + i, p.press.told(5), i % 2 == 0 ? 80 : 1);
            Press.due("round " + i, p.press.told(1), i % 2 == 0 ? 162 : 83 + (erased ? 3 : 4));
            calls += (text.length() + 19) / 20 + 3;
        }
    }

    /** Much that is typed, built and refused in one life, without harm to the DEFS. */
    static void crowdedLife() {
        Press p = new Press();
        p.load("def f(x:((int,bool),int)):code (int->int)={fn y:int.y};");
        String types = "fst (1,(fn x:(int,(int,(int,int))).x,fn y:code code code bool.(y,y)))";
        for (int i = 0; i < 30; i++) {
            Press.due("types", p.ask(types + times("+" + types, 14), 500, false), 0);
            Press.due("faults", p.ask("(1,(2,(3,(4,(5,(6,(7,(8,(9,nobody)))))))))", 500, false), -1);
            Press.due("closes", p.ask("{close a=close in 1,b=close in 2,c=close in 3,d=close in 4 in 5}", 0, false), 0);
            Press.due("closes", p.value(),
                "{(close x0=(close in 1),x1=(close in 2),x2=(close in 3),x3=(close in 4) in 5)}");
            Press.due("f", p.type(1, 0), "((int,bool),int)->code (int->int)");
            Press.due("a load that is refused", p.load("def f(x:(int,int)):code bool={1};"), -1);
            Press.due("f", gives(p, "f ((1,true),2)", 9, false), "{(fn x0:int.x0)}");
        }
        p = new Press();
        String twice = "close a=close in 1,b=close in 2,c=close in 3,d=close in 4,e=close in 5,g=close in 6,h=close in 7 in 8";
        String text = "{(" + twice + ",(" + twice + ",(" + twice + "," + twice + ")))}";
        for (int i = 0; i < 60; i++) {
            Press.due("many closes", p.ask(text, 0, false), 0);
            p.ask("(1,(2,(3,(4,(5,(6,(7,(8,(9,nobody)))))))))", 500, false);
        }
        Press.due("many closes", p.value().startsWith("{((close x0=(close in 1),x1="), true);
        Press.due("many closes", p.value().endsWith(",x27=(close in 7) in 8))))}"), true);
    }

    // ---- ERASED

    static void erased() {
        Press p = new Press();
        p.load(POWER);
        Press.due("erased pow", gives(p, "pow 2 {7}", 500, true), "49");
        Press.due("its TYPE", p.type(0, 0), "code int");
        Press.due("erased mk", gives(p, "mk 5", 500, true), "fn");
        Press.due("erased run", gives(p, "open (run (close in mk 5)) 2", 500, true), "32");
        told("", "run (close in {1+1})", 1, true, "0 1 0 0 0 2 0 0");
        told("", "close a=close in 1,b=close in 2 in open a+open b", 5, true, "0 5 0 0 0 3 0 0");
        told("", "close a=close in 1,b=close in 2 in open a+open b", 4, true, "1 4 0 0 -1 0 0 0");
        told("", "{fn x:int.x/0}", 1, true, "0 1 0 0 3 0 0 0");
        told("", "{1/0}", 1, true, "4 0 0 0 -1 0 0 0");
        told("", "{(fn x:int.x) 3}", 2, true, "0 2 0 1 0 3 0 0");
        told("", "{(1,~{true})}", 2, true, "0 1 0 0 2 0 0 0");
        told("", "{1" + times("+1", 200) + "}", 0, true, "0 0 0 0 0 201 0 0");
        Press.due("erased pair", gives(p, "let x=3 in ({x},{{x+1}})", 9, true), "(3,4)");
    }

    // ---- promise 7

    static void types() {
        typed("1", "int");
        typed("(1,(true,2))", "(int,(bool,int))");
        typed("fn x:int.fn y:bool.x", "int->bool->int");
        typed("fn f:int->int.f", "(int->int)->int->int");
        typed("fn f:code (int->int).1", "code (int->int)->int");
        typed("close in {close in (fn x:int.x,{true})}", "box code box (int->int,code bool)");
        typed("fn x:((int)).x", "int->int");
        Press p = new Press();
        p.load("def f(x:(int->bool,box (int->int))):code code int={{1}};");
        Press.due("type of DEF 0", p.type(1, 0), "(int->bool,box (int->int))->code code int");
        Press.due("none such", p.press.type(1, 1), -1);
        Press.due("none such", p.press.type(1, -1), -1);
        Press.due("none such", p.press.type(0, 0), -1);
        Press.due("none such", p.press.type(2, 0), -1);
        Press.due("none such", p.press.type(-1, 0), -1);
        Press.due("OUT stays", p.out(), "(int->bool,box (int->int))->code code int");
        p.ask("f", 0, false);
        Press.due("type of f", p.type(0, -5), "(int->bool,box (int->int))->code code int");
        p.load("def g(x:int):int=x;");
        Press.due("that question's still", p.type(0, 0), "(int->bool,box (int->int))->code code int");
        Press.due("value still", p.value(), "fn");
    }

    // ---- promises 8 and 9

    static void values() {
        Press p = new Press();
        p.load("def old(x:int):int=x;");
        p.ask("({old 1},{fn x:int.old x})", 500, false);
        p.load("def newer(x:bool,y:bool):bool=y;");
        p.ask("nobody (", 500, false);
        p.ask("nobody", 500, false);
        Press.due("a value stays as it was", p.value(), "({(old 1)},{(fn x0:int.(old x0))})");
        Press.due("out(0)", p.press.out(0), (int) '(');
        Press.due("out(-1)", p.press.out(-1), -1);
        Press.due("out at the end", p.press.out(p.press.count(2)), -1);
        Press.due("out of the last", p.press.out(p.press.count(2) - 1), (int) ')');
        longValue(19999, "fits");
        longValue(20000, "fits");
        longValue(20001, "is refused");
        longValue(20013, "is refused");
    }

    /** The length of a question's value, by the other reading of the document. */
    static int lengthOf(String text) {
        Plain q = new Plain();
        int end = q.ask(text, 500, false);
        return end == 0 && q.valueText != null ? q.valueText.length() : -1;
    }

    /** Pairs of two wide CODES, and a sum whose numbers fill up what lacks. */
    static void longValue(int want, String what) {
        String wide = times("code ", 18) + "bool";
        String head = "let c={fst (1,fn x:" + wide + ".1)} in let d={~c+~c+~c+~c} in "
            + "let e={~d+~d+~d+~d+~d+~d+~d} in (";
        String pairs = "e";
        int at = lengthOf(head + pairs + ",{1+1})");
        int base = at;
        for (String code : new String[] {"e", "d"}) {
            int more = lengthOf(head + "(e," + code + "),{1+1})") - base;
            for (; at + more < want; at += more) {
                pairs = "(" + pairs + "," + code + ")";
            }
        }
        // a number of ten digits more is thirteen bytes, a digit more is one
        int numbers = (want - at) / 13;
        int digits = (want - at) % 13;
        String first = "1000000000".substring(0, 1 + Math.min(9, digits));
        String second = "1000000000".substring(0, 1 + Math.max(0, digits - 9));
        String tail = "{" + first + "+" + second + times("+2000000000", numbers) + "}";
        String text = head + pairs + "," + tail + ")";
        int length = lengthOf(text);
        Press.due("length of the long one", length, want <= 20000 ? want : -1);
        Press p = new Press();
        Press.due("the long one", p.ask(text, 500, false), 0);
        Press.due("a short text", p.type(0, 0).startsWith("("), true);
        int shorter = p.press.count(2);
        Press.due("a value of " + want, p.press.value(), length);
        Press.due("OUT of " + want + " " + what, p.press.count(2), length == -1 ? shorter : length);
        if (length == 20000) {
            Press.due("the last byte", p.press.out(19999), (int) ')');
            Press.due("no more bytes", p.press.out(20000), -1);
        }
    }

    // ---- promise 10

    static void counts() {
        Press p = new Press();
        p.load(POWER);
        p.feed("1+1 and twenty more bytes");
        Press.due("DEFS", p.press.count(0), 2);
        Press.due("TAPE", p.press.count(1), 40);
        p.press.ask(3, 5, false);
        p.ask("1/0", 5, false);
        p.ask("true+1", 5, false);
        p.ask("mk 2", 50, true);
        p.ask("mk 2", 2, false);
        Press.due("values", p.press.count(3), 2);
        p.press.type(1, 0);
        Press.due("OUT", p.press.count(2), 23);
        Press.due("none such", p.press.count(4), -1);
        Press.due("none such", p.press.count(-1), -1);
    }

    public static void main(String[] args) throws InterruptedException {
        newObject();
        feed();
        load();
        ask();
        tokens();
        form();
        many();
        secondRound();
        wide();
        working();
        steps();
        building();
        full();
        rooms();
        longLife();
        crowdedLife();
        erased();
        types();
        values();
        counts();
        Press.finish("PromisesTest");
    }
}
