/** Parts III and IV of the document, sentence by sentence: what is worked out, its STEPS, PARTS and ENDS; and ERASED. */
public final class WorkEdgesTest extends Checks {

    /** A sum of so many ones, low and without many brackets. */
    static String ones(int n) {
        StringBuilder b = new StringBuilder();
        for (int left = n; left > 0; left -= 10) {
            b.append(left < n ? "+" : "").append("(1").append(times("+1", Math.min(left, 10) - 1)).append(")");
        }
        return b.toString();
    }

    /** An int's E of so many PARTS (not 2), of a HEIGHT far below 60. */
    static String sized(int parts) {
        return parts % 2 == 1 ? ones((parts + 1) / 2) : "fst (" + ones((parts - 2) / 2) + ",1)";
    }

    /** A sum of that HEIGHT, of twice as many PARTS but one. */
    static String high(int height) {
        return "1" + times("+1", height - 1);
    }

    static void toldFirst(String program, String text, int steps, boolean erased, String want) {
        Press p = new Press();
        if (!program.isEmpty()) {
            p.load(program);
            Press.due("fault of program " + program, p.fault(), "none");
        }
        p.ask(text, steps, erased);
        Press.due("fault of " + text, p.fault(), "none");
        Press.due("told of " + text, (p.told() + " ").startsWith(want + " ") ? want : p.told(), want);
    }

    static void toldFirst(String text, String want) {
        toldFirst("", text, 500, false, want);
    }

    // ---- "ints (they wrap; / and % cut towards 0 ..)"

    static void ints() {
        String low = "(0-2147483647-1)";
        gives("2147483647+1", "-2147483648");
        gives("0-2147483647", "-2147483647");
        gives("0-2147483647-1", "-2147483648");
        gives("0-2147483647-2", "2147483647");
        gives(low + "-1", "2147483647");
        gives("0-" + low, "-2147483648");
        gives(low + "*(0-1)", "-2147483648");
        gives("65536*65536", "0");
        gives("65536*32768", "-2147483648");
        gives("46341*46341", "-2147479015");
        gives("2147483647*2147483647", "1");
        gives(low + "+" + low, "0");
        gives("7/2", "3");
        gives("(0-7)/2", "-3");
        gives("7/(0-2)", "-3");
        gives("(0-7)/(0-2)", "3");
        gives("1/2", "0");
        gives("(0-1)/2", "0");
        gives("7%2", "1");
        gives("(0-7)%2", "-1");
        gives("7%(0-2)", "1");
        gives("(0-7)%(0-2)", "-1");
        gives("0/5", "0");
        gives("0%5", "0");
        gives(low + "/(0-1)", "-2147483648");
        gives(low + "%(0-1)", "0");
        gives(low + "/1", "-2147483648");
        gives(low + "/" + low, "1");
        gives("2147483647/" + low, "0");
        gives("2147483647%" + low, "2147483647");
        gives(low + "%2147483647", "-1");
        gives(low + "<2147483647", "true");
        gives("2147483647<" + low, "false");
        gives("1<1", "false");
        gives("0<1", "true");
        gives("1<0", "false");
        gives("(0-1)<0", "true");
        gives("1==1", "true");
        gives("1==2", "false");
        gives(low + "==2147483647+1", "true");
        gives("true==true", "true");
        gives("false==false", "true");
        gives("false==true", "false");
    }

    /** "4 ZERO": / and % by 0, when it is worked out and not ahead. */
    static void zero() {
        for (String by : new String[] {"0", "(1-1)", "(0*7)", "(65536*65536)", "fst (0,1)", "(if true then 0 else 1)"}) {
            gives("7/" + by, "end 4");
            gives("7%" + by, "end 4");
            gives("0/" + by, "end 4");
            gives("0%" + by, "end 4");
            gives("(0-2147483647-1)/" + by, "end 4");
            gives("(1,7/" + by + ")", "end 4");
            gives("{7/" + by + "}", "{(7/" + (by.equals("0") ? "0" : gives(new Press(), "{" + by + "}", 9, false)
                .replaceAll("[{}]", "")) + ")}");
            gives("fn x:int.7/" + by, "fn");
            gives("if true then 1 else 7/" + by, "1");
            gives("if false then 7%" + by + " else 2", "2");
            told("", "7/" + by, 500, true, by.equals("fst (0,1)") ? "4 1 0 0 -1 0 0 0" : "4 0 0 0 -1 0 0 0");
        }
        gives("7/1", "7");
        gives("7%1", "0");
        gives("run (close in {1/0})", "end 4");
        gives("{~(let x=1/0 in {1})}", "end 4");
        gives("1/0+nobody", "fault 2 at 4");
        gives("close in 1/0", "end 4");
        gives("(rec f(x:int):int.if x==0 then 5/x else f (x-1)) 3", "end 4");
        // parts from the left: the first END that comes
        told("", "(1/0,fn x:int.x)", 0, false, "4 0 0 0 -1 0 0 0");
        told("", "(fn x:int.x,1/0)", 0, false, "1 0 0 0 -1 0 0 0");
        told("", "(fn x:int.x,1/0)", 1, false, "4 1 0 0 -1 0 0 0");
        told("", "1/0+fst (1,2)", 0, false, "4 0 0 0 -1 0 0 0");
        told("", "fst (1,2)+1/0", 0, false, "1 0 0 0 -1 0 0 0");
        told("", "1/0==fst (1,2)", 0, false, "4 0 0 0 -1 0 0 0");
        told("", "1/fst (0,2)", 0, false, "1 0 0 0 -1 0 0 0");
    }

    // ---- "STEPS: .."

    /** It takes so many STEPS: with them it gives its value, with one less END 1. */
    static void takes(String program, String text, int steps, boolean erased) {
        for (int allowed : new int[] {steps, steps + 1, 500, steps - 1, 0}) {
            if (allowed < 0 || allowed > 500) {
                continue;
            }
            Press p = new Press();
            p.load(program);
            int end = p.ask(text, allowed, erased);
            String what = text + " in " + allowed + (erased ? " STEPS, erased" : " STEPS");
            Press.due("fault of " + text, p.fault(), "none");
            Press.due(what, end, allowed >= steps ? 0 : 1);
            Press.due("told(0) of " + what, p.press.told(0), end);
            Press.due("STEPS of " + what, p.press.told(1), Math.min(steps, allowed));
            Press.due("whether there is a value of " + what, p.press.value() > 0, end == 0);
            Press.due("what the value is of " + what, p.press.told(4) == -1, end != 0);
        }
    }

    static void takes(String text, int steps) {
        takes("", text, steps, false);
    }

    static void steps() {
        for (String none : new String[] {"1", "true", "1+2*3/4%5-6", "1<2", "true==false", "if true then 1 else 2",
            "if false then fst (1,2) else 3", "{1}", "{(1,2)}", "{fn x:int.x}", "{rec f(x:int):int.x}", "{let x=1 in x}", "{close in 1}",
            "{~{1}}", "{{1}}", "{(fn x:int.x) 1}", "{run (close in {1})}", "{close a=close in 1 in open a}"}) {
            takes(none, 0);
        }
        takes("(1,2)", 1);
        takes("fst (1,2)+snd (3,4)", 2);
        takes("((1,2),(3,4))", 3);
        takes("fn x:int.x", 1);
        takes("fn x:int.(x,(x,x))", 1);
        takes("rec f(x:int):int.f x", 1);
        takes("let x=1 in x", 1);
        takes("let x=let y=1 in y in let z=x in z", 3);
        takes("(fn x:int.x) 1", 2);
        takes("let f=fn x:int.x in f (f (f 1))", 5);
        takes("(fn x:int.fn y:int.x) 1 2", 4);
        takes("(rec f(n:int):int.if n<1 then 0 else f (n-1)) 3", 5);
        takes("if (fn x:bool.x) true then (1,2) else (3,4)", 3);
        takes("close in 1", 1);
        takes("open (close in 1)", 1);
        takes("close a=close in 1 in open a", 3);
        takes("close a=close in 1,b=close in 2 in open a", 5);
        String eight = "a=x,b=x,c=x,d=x,e=x,f=x,g=x,h=x";
        takes("let x=close in 1 in close " + eight + " in open h", 11);
        takes("run (close in {1})", 2);
        takes("run (close in {1+2*3})", 2);
        takes("run (close in {(1,2)})", 3);
        takes("run (close in {fn x:int.x})", 3);
        takes("run (close in {(fn x:int.x) 1})", 4);
        takes("open (run (close in {let x=1 in x}))", 3);
        takes("run (close in {close in {1}})", 3);
        takes("{~(let x=1 in {x})}", 1);
        takes("{fn x:int.~(fst ({x},{1}))}", 1);
        takes("let p=(1,(2,3)) in {p}", 3);
        String defs = "def one(a:int):int=a;def two(a:int,b:int):int=a;def four(a:int,b:int,c:int,d:int):int=d;";
        takes(defs, "one", 0, false);
        takes(defs, "one 1", 1, false);
        takes(defs, "two 1", 1, false);
        takes(defs, "two 1 2", 2, false);
        takes(defs, "four 1 2 3", 3, false);
        takes(defs, "four 1 2 3 4", 4, false);
        takes(defs, "let g=four 1 2 in g 3 4+g 5 6", 7, false);
        takes(defs, "{four 1 2 3 4}", 0, false);
    }

    /** The moment of a STEP: what would end it otherwise comes ahead of it or behind it. */
    static void whenSteps() {
        told("", "(1,1/0)", 0, false, "4 0 0 0 -1 0 0 0");
        told("", "let x=1/0 in 1", 0, false, "4 0 0 0 -1 0 0 0");
        told("", "let x=1 in 1/0", 0, false, "1 0 0 0 -1 0 0 0");
        told("", "let x=1 in 1/0", 1, false, "4 1 0 0 -1 0 0 0");
        told("", "close in 1/0", 0, false, "1 0 0 0 -1 0 0 0");
        told("", "close in 1/0", 1, false, "4 1 0 0 -1 0 0 0");
        told("", "close a=close in 1,b=close in 1/0 in 2", 2, false, "4 2 0 0 -1 0 0 0");
        told("", "close a=close in 1,b=close in 2 in 1/0", 2, false, "1 2 0 0 -1 0 0 0");
        told("", "close a=close in 1,b=close in 2 in 1/0", 3, false, "1 3 0 0 -1 0 0 0");
        told("", "close a=close in 1,b=close in 2 in 1/0", 4, false, "1 4 0 0 -1 0 0 0");
        told("", "close a=close in 1,b=close in 2 in 1/0", 5, false, "4 5 0 0 -1 0 0 0");
        told("", "(fn x:int.1/0) 1", 1, false, "1 1 0 0 -1 0 0 0");
        told("", "(fn x:int.1/0) 1", 2, false, "4 2 0 1 -1 0 0 0");
        told("", "(fn x:int.x) (1/0)", 1, false, "4 1 0 0 -1 0 0 0");
        told("", "(fn x:int.x) (1/0)", 0, false, "1 0 0 0 -1 0 0 0");
        told("", "run (close in {1/0})", 1, false, "1 1 3 0 -1 0 0 0");
        told("", "run (close in {1/0})", 2, false, "4 2 6 1 -1 0 0 0");
        told("", "{(fst (1,~(let x=1 in {x})),2)}", 0, false, "1 0 4 0 -1 0 0 0");
    }

    /** "with so many STEPS at most": 500 of them, and one more. */
    static void fiveHundred() {
        String d = "let d=rec f(n:int):int.if n<1 then 1 else f (n-1) in ";
        takes(d + "d 99+d 99+d 99+d 99+d 97", 500);
        takes(d + "d 99+d 99+d 99+d 99+d 96", 499);
        told("", d + "d 99+d 99+d 99+d 99+d 98", 500, false, "1 500 0 100 -1 0 0 0");
        told("", d + "d 99+d 99+d 99+d 99+d 97+1/0", 500, false, "4 500 0 100 -1 0 0 0");
        Press p = new Press();
        p.feed("1");
        for (int bad : new int[] {-1, -2, 501, 502, 1000, Integer.MAX_VALUE, Integer.MIN_VALUE}) {
            Press.due("ask with " + bad + " STEPS", p.press.ask(1, bad, false), -2);
            Press.due("ask with " + bad + " STEPS", p.press.ask(1, bad, true), -2);
        }
        Press.due("the TAPE stays", p.press.count(1), 20);
        Press.due("nothing was asked", p.told(), "-1 0 0 0 -1 0 0 0");
        Press.due("500 are allowed", p.press.ask(1, 500, false), 0);
        p.feed("1");
        Press.due("and 0", p.press.ask(1, 0, false), 0);
    }

    // ---- "2 DEEP: .. while 100 have begun that aren't done"

    static void deep() {
        String f = "(rec f(x:int):int.if x<1 then 0 else f (x-1)) ";
        told("", f + "98", 500, false, "0 100 0 99 0 0 0 0");
        told("", f + "99", 500, false, "0 101 0 100 0 0 0 0");
        told("", f + "100", 500, false, "2 101 0 100 -1 0 0 0");
        told("", f + "100", 101, false, "1 101 0 100 -1 0 0 0");
        told("", f + "100", 102, false, "2 101 0 100 -1 0 0 0");
        told("", f + "100", 500, true, "2 101 0 100 -1 0 0 0");
        // those that are done count no more
        told("", "let g=" + f.trim() + " in g 99+g 99", 500, false, "0 202 0 100 0 0 0 0");
        told("", "let i=fn x:int.x in i (i (i (i 1)))", 500, false, "0 6 0 1 0 1 0 0");
        told("", "let i=fn x:int.x in " + times("i 1+", 150) + "1", 500, false, "0 152 0 1 0 151 0 0");
        told("", "(fn x:int.fn y:int.x) 1 2", 500, false, "0 4 0 1 0 1 0 0");
        told("", "(fn f:int->int.f 3) (fn x:int.x)", 500, false, "0 4 0 2 0 3 0 0");
        // DEFS: those that still want arguments are done at once
        String h = "def h(a:int,b:int):int=if a<1 then b else h (a-1) b;def k(a:int,b:int,c:int):int=a+b+c;";
        told(h, "h 0", 500, false, "0 1 0 0 3 0 0 0");
        told(h, "k 1 2", 500, false, "0 2 0 0 3 0 0 0");
        told(h, "k 1 2 3", 500, false, "0 3 0 1 0 6 0 0");
        told(h, "h 99 7", 500, false, "0 200 0 100 0 7 0 0");
        told(h, "h 100 7", 500, false, "2 200 0 100 -1 0 0 0");
        told(h, "h 100 7", 200, false, "1 200 0 100 -1 0 0 0");
        // but they begin, too
        String g = "(rec f(x:int):int->int.if x<1 then k 1 2 else f (x-1)) ";
        told(h, g + "97 3", 500, false, "0 102 0 98 0 6 0 0");
        told(h, g + "98 3", 500, false, "0 103 0 99 0 6 0 0");
        told(h, g + "99 3", 500, false, "2 101 0 100 -1 0 0 0");
        told(h, "(rec f(x:int):int->int->int->int.if x<1 then k else f (x-1)) 99 1 2", 500, false,
            "0 103 0 100 3 0 0 0");
        // runs and APPLICATIONS together: each round has one of both, and six PARTS
        String r = "def f(n:int):int=open (run (close in {f 1}));";
        told(r, "f 1", 500, false, "2 150 300 100 -1 0 0 0");
        told(r, "(fn x:int.f x) 1", 500, false, "2 151 297 100 -1 0 0 0");
        told(r, "(fn x:int.f x) 1", 151, false, "1 151 297 100 -1 0 0 0");
        // DEEP and FULL at once: the least
        told(r, "let c={1} in (fn x:int.f x) 1", 500, false, "2 152 298 100 -1 0 0 0");
        told(r, "let c={1} in (fn x:int.f x) 1", 152, false, "1 152 298 100 -1 0 0 0");
        // a run that is FULL has begun
        told(r, "let c={1+2} in f 1", 500, false, "3 151 300 100 -1 0 0 0");
        told("", "run (close in {1})", 500, false, "0 2 2 1 5 0 0 0");
        told("", "(run (close in {1}),run (close in {2}))", 500, false, "0 5 4 1 2 0 0 0");
        told("", "run (close in {open (run (close in {1}))})", 500, false, "0 4 12 2 5 0 0 0");
    }

    // ---- "3 FULL: the 301st PART .. or a SIZE above 200 or a HEIGHT above 60"

    static void parts() {
        toldFirst("({" + sized(149) + "},{" + sized(150) + "})", "0 1 299 0 2");
        toldFirst("({" + sized(149) + "},{" + sized(151) + "})", "0 1 300 0 2");
        toldFirst("({" + sized(150) + "},{" + sized(150) + "})", "0 1 300 0 2");
        toldFirst("({" + sized(150) + "},{" + sized(151) + "})", "3 0 300 0 -1");
        toldFirst("({" + sized(149) + "},{" + sized(153) + "})", "3 0 300 0 -1");
        toldFirst("({" + sized(150) + "},({" + sized(150) + "},1/0))", "4 0 300 0 -1");
        toldFirst("({" + sized(150) + "},({" + sized(150) + "},{1}))", "3 0 300 0 -1");
        toldFirst("({" + sized(150) + "},({" + sized(150) + "},{~(let x=1/0 in {1})}))", "4 0 300 0 -1");
        toldFirst("({" + sized(151) + "},({" + sized(147) + "},{1+~(let x=1/0 in {1})}))", "4 0 300 0 -1");
        toldFirst("({" + sized(151) + "},({" + sized(149) + "},{1+~(let x=1/0 in {1})}))", "3 0 300 0 -1");
        toldFirst("({" + sized(150) + "},({" + sized(150) + "},{1+~(let x=1/0 in {1})}))", "3 0 300 0 -1");
        // PRESSED ones, of a run all at once
        toldFirst("run (close in {" + sized(149) + "})", "0 2 298 1 5");
        toldFirst("run (close in {" + sized(150) + "})", "0 3 300 1 5");
        toldFirst("run (close in {" + sized(151) + "})", "3 2 151 1 -1");
        toldFirst("let c={1} in run (close in {" + sized(149) + "})", "0 3 299 1 5");
        toldFirst("let c={1} in run (close in {" + sized(150) + "})", "3 3 151 1 -1");
        toldFirst("let c={(1,2)} in run (close in {" + sized(149) + "})", "3 3 152 1 -1");
        toldFirst("", "run (close in {" + sized(151) + "})", 1, false, "1 1 151 0 -1");
        toldFirst("let b=close in {" + sized(100) + "} in (run b,run b)", "0 7 300 1 2");
        toldFirst("let b=close in {" + sized(101) + "} in (run b,run b)", "3 4 202 1 -1");
        toldFirst("(run (close in {" + sized(75) + "}),run (close in {" + sized(75) + "}))", "0 5 300 1 2");
        toldFirst("(run (close in {" + sized(75) + "}),run (close in {" + sized(76) + "}))", "3 4 226 1 -1");
        // BUILT ones behind PRESSED ones
        toldFirst("run (close in {{" + sized(99) + "}})", "0 2 299 1 5");
        toldFirst("run (close in {{" + sized(100) + "}})", "3 2 300 1 -1");
        toldFirst("let r=run (close in {" + sized(149) + "}) in ({1},{2})", "0 4 300 1 2");
        toldFirst("let r=run (close in {" + sized(149) + "}) in ({1},({2},{3}))", "3 3 300 1 -1");
        // each question has 300 of its own
        Press p = new Press();
        for (int i = 0; i < 3; i++) {
            Press.due("300 PARTS", p.ask("run (close in {" + sized(150) + "})", 500, false), 0);
            Press.due("300 PARTS", p.press.told(2), 300);
            Press.due("301 PARTS", p.ask("({" + sized(150) + "},{" + sized(151) + "})", 500, false), 3);
            Press.due("301 PARTS", p.press.told(2), 300);
        }
        // values that become PARTS count one by one
        String p9 = "let p=(1,(2,(3,(4,5)))) in ";
        toldFirst(p9 + "({" + sized(145) + "},({" + sized(146) + "},{p}))", "0 7 300 0 2");
        toldFirst(p9 + "({" + sized(146) + "},({" + sized(146) + "},{p}))", "3 5 300 0 -1");
        toldFirst(p9 + "({" + sized(150) + "},({" + sized(150) + "},{p}))", "3 5 300 0 -1");
        String low = "let m=0-2147483647-1 in let n=0-1 in ";
        toldFirst(low + "({" + sized(145) + "},({" + sized(150) + "},{m}))", "0 4 300 0 2");
        toldFirst(low + "({" + sized(146) + "},({" + sized(150) + "},{m}))", "3 2 300 0 -1");
        toldFirst(low + "({" + sized(147) + "},({" + sized(150) + "},{n}))", "0 4 300 0 2");
        toldFirst(low + "({" + sized(148) + "},({" + sized(150) + "},{n}))", "3 2 300 0 -1");
    }

    static void sizes() {
        toldFirst("{" + sized(199) + "}", "0 0 199 0 4 0 199");
        toldFirst("{" + sized(200) + "}", "0 0 200 0 4 0 200");
        toldFirst("{" + sized(201) + "}", "3 0 201 0 -1 0 0 0");
        toldFirst("{" + sized(202) + "}", "3 0 202 0 -1 0 0 0");
        // what is put in counts wholly
        toldFirst("let c={" + sized(99) + "} in {~c+~c}", "0 1 100 0 4 0 199");
        toldFirst("let c={" + sized(98) + "} in {fst (~c+~c,1)}", "0 1 102 0 4 0 200");
        toldFirst("let c={" + sized(100) + "} in {~c+~c}", "3 1 101 0 -1 0 0 0");
        toldFirst("let c={" + sized(200) + "} in {~c}", "0 1 200 0 4 0 200");
        toldFirst("let c={" + sized(199) + "} in {fst (~c,1)}", "3 1 202 0 -1 0 0 0");
        toldFirst("let c={" + sized(197) + "} in {fst (~c,1)}", "0 1 200 0 4 0 200");
        toldFirst("let c={" + sized(198) + "} in {fst (~c,1)}", "3 1 201 0 -1 0 0 0");
        // a { } of LEVEL 0, not one within
        toldFirst("{{" + sized(199) + "}}", "0 0 200 0 4 0 200");
        toldFirst("{{" + sized(200) + "}}", "3 0 201 0 -1 0 0 0");
        toldFirst("{fst (1,~{" + sized(197) + "})}", "0 0 200 0 4 0 200");
        toldFirst("{fst (1,~{" + sized(200) + "})}", "3 0 203 0 -1 0 0 0");
        toldFirst("{fst (1,~{" + sized(201) + "}+~(let x=1/0 in {1}))}", "3 0 205 0 -1 0 0 0");
        toldFirst("{fst (1,~{" + sized(200) + "}+~(let x=1/0 in {1}))}", "4 0 204 0 -1 0 0 0");
        // HEIGHT
        told("", "{" + high(59) + "}", 0, false, "0 0 117 0 4 0 117 59");
        told("", "{" + high(60) + "}", 0, false, "0 0 119 0 4 0 119 60");
        told("", "{" + high(61) + "}", 0, false, "3 0 121 0 -1 0 0 0");
        told("", "let c={" + high(59) + "} in {1+~c}", 1, false, "0 1 119 0 4 0 119 60");
        told("", "let c={" + high(60) + "} in {1+~c}", 1, false, "3 1 121 0 -1 0 0 0");
        told("", "let c={" + high(60) + "} in {~c}", 1, false, "0 1 119 0 4 0 119 60");
        told("", "{{" + high(59) + "}}", 0, false, "0 0 118 0 4 0 118 60");
        told("", "{{" + high(60) + "}}", 0, false, "3 0 120 0 -1 0 0 0");
        // as high as it may be, and run
        gives("open (run (close in {" + high(60) + "}))", "60");
        gives("{" + high(60) + "}", "{" + times("(", 59) + "1" + times("+1)", 59) + "}");
        gives("let c={" + high(58) + "} in {fn x:int.1+~c}", "{(fn x0:int.(1+" + times("(", 57) + "1" + times("+1)", 57) + "))}");
    }

    /** "PARTS of an E": SIZE and HEIGHT of each. */
    static void measures() {
        String[][] all = {{"1", "1 1"}, {"true", "1 1"}, {"1+2", "3 2"}, {"1==2", "3 2"}, {"1<2", "3 2"}, {"(1)", "1 1"}, {"(1,2)", "3 2"},
            {"((1,2),3)", "5 3"}, {"(1,(2,3))", "5 3"}, {"fst (1,2)", "4 3"}, {"snd (1,2)", "4 3"}, {"fn x:int.x", "2 2"},
            {"fn x:(int->int,code int).1", "2 2"}, {"rec f(x:int):int.f x", "4 3"}, {"let x=1 in x", "3 2"}, {"let x=1+2 in 3", "5 3"},
            {"let x=1 in 2+3", "5 3"}, {"if true then 1 else 2", "4 2"}, {"if 1<2 then 1 else 2", "6 3"}, {"if true then 1+2 else 3", "6 3"},
            {"if true then 1 else 2+3", "6 3"}, {"close in 1", "2 2"}, {"close a=close in 1 in 2", "4 3"},
            {"close a=close in 1,b=close in 2+3 in 4", "8 4"}, {"close a=close in 1 in 2+(3+4)", "8 4"}, {"{1}", "2 2"}, {"{~{1}}", "4 4"},
            {"open (close in 1)", "3 3"}, {"run (close in {1})", "4 4"}, {"(fn x:int.x) 1", "4 3"}, {"(fn x:int.fn y:int.x) 1 2", "7 5"},
            {"1+2+3", "5 3"}, {"1+(2+3)", "5 3"}, {"1*2+3*4", "7 3"}, {"~{1}", "1 1"}, {"~{1+2}+3", "5 3"}};
        for (String[] a : all) {
            Press p = new Press();
            Press.due("{" + a[0] + "}", p.ask("{" + a[0] + "}", 0, false), 0);
            Press.due("SIZE and HEIGHT of " + a[0], p.press.told(6) + " " + p.press.told(7), a[1]);
            Press.due("PARTS of " + a[0], p.press.told(2), p.press.told(6));
            int size = p.press.told(6);
            // BUILT with a { } around it, PRESSED so, and BUILT once more
            if (!a[0].contains("{")) {
                String again = "open (run (close in {{" + a[0] + "}}))";
                Press.due(again, gives(p, again, 500, false), gives(new Press(), "{" + a[0] + "}", 500, false));
                Press.due("PARTS of " + again, p.press.told(2), 3 * size + 2);
                Press.due("SIZE and HEIGHT of " + again, p.press.told(6) + " " + p.press.told(7), a[1]);
            }
        }
        // a DEF's NAME is one; a value is made of PARTS
        told("def f(x:int):int=x;", "{f (f 1)}", 0, false, "0 0 5 0 4 0 5 3");
        told("", "let x=0 in {x}", 1, false, "0 1 1 0 4 0 1 1");
        told("", "let x=0-1 in {x}", 1, false, "0 1 3 0 4 0 3 2");
        told("", "let x=0-2147483647 in {x}", 1, false, "0 1 3 0 4 0 3 2");
        told("", "let x=0-2147483647-1 in {x}", 1, false, "0 1 5 0 4 0 5 3");
        told("", "let x=(true,(0-1,false)) in {x}", 3, false, "0 3 7 0 4 0 7 4");
        told("", "let x=0-3 in {{x+~{x}}}", 1, false, "0 1 10 0 4 0 10 6");
    }

    // ---- what is BUILT, and what is PRESSED

    static void built() {
        gives("let x=0 in {x}", "{0}");
        gives("let x=2147483647 in {x}", "{2147483647}");
        gives("let x=0-1 in {x}", "{(0-1)}");
        gives("let x=0-2147483647 in {x}", "{(0-2147483647)}");
        gives("let x=0-2147483647-1 in {x}", "{((0-2147483647)-1)}");
        gives("let x=1<2 in {x}", "{true}");
        gives("let x=2<1 in {x}", "{false}");
        gives("let x=((1,true),(0-2,(false,3))) in {x}", "{((1,true),((0-2),(false,3)))}");
        gives("let x=5 in {{x}}", "{{5}}");
        gives("let x=5 in {{~{x}+x}}", "{{((~{5})+5)}}");
        gives("(fn x:int.{x}) 4", "{4}");
        gives("(rec f(x:int):code int.if x<1 then {x} else {x+~(f (x-1))}) 2", "{(2+(1+0))}");
        givesWith("def f(x:int,y:(bool,int)):code (int,bool)={(x+snd y,fst y)};", "f 3 (true,4)", "{((3+(snd (true,4))),(fst (true,4)))}");
        gives("close x=close in 5 in let y=open x in {y}", "box {5}");
        gives("{fn x:int.{x}}", "{(fn x0:int.{x0})}");
        gives("(open (run (close in {fn x:int.{x}}))) 6", "{6}");
        gives("(open (run (close in {fn x:int.{x+~{x}}}))) (0-6)", "{((0-6)+(0-6))}");
        gives("open (run (close in {{~{1}+~(let c={2} in c)}}))", "{(1+2)}");
        gives("open (run (close in {{fn x:int.~(let c={x} in {~c*~c})}}))", "{(fn x0:int.(x0*x0))}");
        // NAMES are new ones each time
        String twice = "let f=fn c:code int.{fn y:int.~c+y} in ";
        gives(twice + "{fn y:int.(~(f {y})) y}", "{(fn x0:int.((fn x1:int.(x0+x1)) x0))}");
        gives("(open (run (close in " + twice + "{fn y:int.(~(f {y})) (y*10)}))) 7", "77");
        gives("(open (run (close in let g=rec g(c:code int):code int.{let y=~c*2 in y+~c} in {fn y:int.~(g (g {y}))}))) 1", "9");
        gives("let g=fn c:code int.{let y=~c in y+~c} in {fn y:int.~(g (g {y}))}",
            "{(fn x0:int.(let x1=(let x2=x0 in (x2+x0)) in (x1+(let x3=x0 in (x3+x0)))))}");
        String loop = "def nest(n:int,c:code int):code int=if n<1 then c else {(fn y:int.~(nest (n-1) {~c*10+y})) n};";
        givesWith(loop, "nest 3 {0}", "{((fn x0:int.((fn x1:int.((fn x2:int.((((((0*10)+x0)*10)+x1)*10)+x2)) 1)) 2)) 3)}");
        givesWith(loop, "open (run (close in nest 3 {0}))", "321");
        gives("let c={rec f(n:int):int.if n<1 then 0 else 1+f (n-1)} in {(~c) ((~c) 2)}",
            "{((rec x0(x1:int):int.(if (x1<1) then 0 else (1+(x0 (x1-1))))) ((rec x2(x3:int):int.(if (x3<1) then 0 else (1+(x2 (x3-1))))) 2))}");
    }

    /** What was told within is known no more behind it, and what was told around it is known again. */
    static void builtBehind() {
        String head = "{fn a:int.fn b:int.rec c(d:int):int.let e=5 in ";
        String want = "{(fn x0:int.(fn x1:int.(rec x2(x3:int):int.(let x4=5 in ";
        String[][] inner = {{"(let y=1 in y)", "(let x5=1 in x5)"}, {"(fn y:int.y) 1", "((fn x5:int.x5) 1)"},
            {"(rec y(z:int):int.y z) 1", "((rec x5(x6:int):int.(x5 x6)) 1)"},
            {"open (close y=close in 1,z=close in 2 in open y+open z)",
                "(open (close x5=(close in 1),x6=(close in 2) in ((open x5)+(open x6))))"},
            {"open (close in 1)", "(open (close in 1))"}, {"~(let y=7 in {y})", "7"}, {"~((fn y:int.{y}) 8)", "8"},
            {"~(open (close y=close in {9},z=close in {6} in {~(open y)+~(open z)}))", "(9+6)"},
            {"~((rec y(z:int):code int.if z<1 then {z} else y (z-1)) 2)", "0"}, {"fst (1,{let y=2 in ~{y}})", "(fst (1,{(let x5=2 in (~{x5}))}))"},
            {"~(let y={a+e} in {~y*~y})", "((x0+x4)*(x0+x4))"}, {"(if let y=true in y then a else b)", "(if (let x5=true in x5) then x0 else x1)"}};
        for (String[] k : inner) {
            gives(head + k[0] + "+a*b*c d*e}", want + "(" + k[1] + "+(((x0*x1)*(x2 x3))*x4))))))}");
            Press p = new Press();
            // the same with a CODE ahead of it, which has NAMES of its own
            Press.due("behind another CODE", gives(p, "({fn p:int.fn q:int.q-p}," + head + k[0] + "+a*b*c d*e})", 500, false),
                "({(fn x0:int.(fn x1:int.(x1-x0)))}," + want + "(" + k[1] + "+(((x0*x1)*(x2 x3))*x4))))))})");
        }
        gives("let a=1 in (let b=2 in b)*10+(fn b:int.b) 3+open (close b=close in 4 in open b)+a", "28");
        gives("(fn a:int.(let b=a+1 in let a=b*10 in a+b)+a) 1", "23");
    }

    /** What is worked out is the same when it is BUILT, PRESSED and worked out then. */
    static void pressed() {
        String[] all = {"1+2*3-4/2%3", "7", "true", "2<1", "true==false", "if 1<2 then 3 else 4", "if 2<1 then 3 else 4",
            "if true then if false then 1 else 2 else 3", "(if 1<2 then 3 else 4)+(if 2<1 then 5 else 6)", "let x=2 in x*x",
            "let x=2 in let y=x+1 in (x,y)", "(let x=2 in x)+(let x=3 in x)", "let x=1 in (let x=2 in x)*10+x", "(fn x:int.x+1) 4",
            "(fn x:int.fn y:int.x-y) 4 5", "(rec f(n:int):int.if n<1 then 0 else n+f (n-1)) 5", "(rec f(f:int):int.f) 3",
            "(rec f(n:int):int->int.fn y:int.if n<1 then y else f (n-1) (y*2)) 3 5", "open (close a=close in 4,b=close in 5 in open a-open b)",
            "open (close a=close in 4,b=close in 5,c=close in 6 in (open a,(open b,open c)))", "close in 5", "close in (1,close in 2)",
            "fst (1,2)", "snd (1,2)", "(1,(true,false))", "fst (snd (1,(2,3)))", "{1+2}", "let x=5 in {x+1}", "let x=(0-1,true) in {x}",
            "{fn x:int.x}", "{fn x:int.~(let c={x} in {~c+~c})}", "{~{1}}", "let c={7} in {~c*~c}", "{rec f(n:int):int.f n}",
            "{let a=1 in let b=a in b}", "{close k=close in 1,m=close in 2 in open m}", "{if true then 1 else 2}", "{(1,true)}",
            "{fst (1,2)}", "{snd (1,2)}", "{open (close in 1)}", "{(fn x:int.x) 3}", "open (run (close in {5}))",
            "run (close in {let x=3 in x+1})", "let f=fn c:code int.{~c+1} in f (f {0})", "let x=1 in let f=fn y:int.x+y in let x=5 in f x",
            "d 3", "d", "{d 3}", "(fn d:int.d) 2", "let f=fn x:int.d x in f (f 1)", "1/0", "0-2147483647-1"};
        for (String e : all) {
            Press p = new Press();
            p.load("def d(x:int):int=x*x;");
            String value = gives(p, e, 500, false);
            Press.due("open (run (close in {" + e + "}))", gives(p, "open (run (close in {" + e + "}))", 500, false), value);
            if (!value.startsWith("end")) {
                Press.due("run (close in {" + e + "})", gives(p, "run (close in {" + e + "})", 500, false), "box " + value);
            }
        }
    }

    // ---- rooms that the limits let fill up

    /** The same of CodePress and of the other reading of the document. */
    static void asPlain(String program, String text, int steps, String first) {
        Plain q = new Plain();
        q.load(program);
        q.ask(text, steps, false);
        Press p = new Press();
        p.load(program);
        p.ask(text, steps, false);
        StringBuilder b = new StringBuilder();
        for (int i = 0; i < 8; i++) {
            b.append(i > 0 ? " " : "").append(q.told[i]);
        }
        Press.due("fault of " + text, p.fault(), "none");
        Press.due("told of " + text, p.told(), b);
        Press.due("first told of " + text, (b + " ").startsWith(first + " ") ? first : b, first);
        Press.due("value of " + text, p.value(), q.valueText);
    }

    static void rooms() {
        // 500 STEPS that all leave a pair, a FUNCTION or a BOX behind
        String pairs = "def f(n:int,p:(int,int)):(int,int)=if n<1 then p else "
            + "fst (f (n-1) (fst p+1,snd p+n),((1,2),((3,4),((5,6),(7,(8,9))))));";
        asPlain(pairs, "f 41 (0,0)", 500, "0 495 0 42");
        asPlain(pairs, "(f 41 (0,0),(1,(2,(3,(4,5)))))", 500, "0 500 0 42");
        asPlain(pairs, "f 42 (0,0)", 500, "1 500 0 43");
        String terms = "fst (fst ((1,2),(3,4)))" + times("+fst (snd ((1,2),(3,4)))", 39);
        asPlain("def f(n:int):int=if n<1 then 0 else " + terms + "+f (n-1);",
            "f 4+fst (fst ((1,2),(3,4)))" + times("+fst (snd ((5,6),(7,8)))", 4), 500, "0 500 0 5 0 501");
        String boxes = "def f(n:int,b:box int):box int=if n<1 then b else f (n-1) (close k=close in 1,m=b in open k+open m);";
        asPlain(boxes, "f 80 (close in 5)", 500, "0 483 0 81");
        asPlain(boxes, "(f 80 (close in 5),(fn x:int.x,(fn x:int.x,(1,(2,3)))))", 500, "0 490 0 81");
        String lets = "def f(n:int,x:int):int=if n<1 then x else let a=x+1 in let b=a+1 in let c=a+b in let d=c-b in f (n-1) (d-x+x);";
        asPlain(lets, "f 83 0", 500, "0 500 0 84 0 83");
        // four NAMES for each PART
        String nest = "~c";
        for (int i = 0; i < 10; i++) {
            nest = "close a=" + nest + ",b=~c,d=~c,e=~c,g=~c,h=~c,i=~c,j=~c in 1";
        }
        String names = "def f(n:int,c:code box int):code box int=if n<1 then c else let z={" + nest + "} in f (n-1) c;";
        asPlain(names, "f 14 {close in 1}", 500, "0 44 282 15 4 0 2 2");
        asPlain(names, "f 15 {close in 1}", 500, "3 44 300 15 -1");
        asPlain(names, "let x={close in 1} in let y=f 14 x in {fn p:int.fn q:int.p-q}", 500, "0 46 287 15 4 0 5 4");
        asPlain(names, "let x={close in 1} in let y=f 13 x in {fn z:int.open (~y)+z}", 500, "0 43 266 14 4 0 6 5");
        // all of them pressed
        String chain = "let c={" + times("close in ", 15) + "1} in {close a=~c,b=~c,d=~c,e=~c,g=~c,h=~c,i=~c,j=~c in 1}";
        asPlain("", "let b=close in " + chain + " in (run b,run b)", 500, "0 264 278 1 2");
        String recs = "let c={rec f(x:int):int.if x<1 then x else f x} in {((~c,~c),((~c,~c),((~c,~c),(~c,~c))))}";
        asPlain("", "run (close in " + recs + ")", 500, "0");
        // many TYPES in one text
        String type = "fst (1,fn x:" + times("code ", 18) + "int.1)";
        typed("(" + type + times("+" + type, 24) + ",{(true,{2})})", "(int,code (bool,code int))");
        // the densest text: nearly two instructions for a TOKEN, and a FAULT at its end
        String more = times("int->", 15) + "int";
        StringBuilder body = new StringBuilder();
        for (int i = 0; i < 15; i++) {
            body.append("fn e").append(i).append(":int.");
        }
        String dense = "def f(a:int,b:int,c:int,d:int):" + more + "=" + body + "a+e14;";
        String call = "f" + times(" 1", 19);
        Press p = new Press();
        Press.due("a DEF of 39 PARTS", p.load(dense), 1);
        String text = call + times("+" + call, 37);
        Press.due("800 TOKENS but one", p.ask(text, 500, false), 1);
        Press.due("its TYPE", p.type(0, 0), "int");
        Press.due("with a FAULT", p.ask(text.substring(0, text.length() - 1) + "f", 500, false), -1);
        Press.due("at its end", p.fault(), "4 at " + (text.length() - 1));
        Press.due("one of them", gives(p, call, 500, false), "2");
    }

    // ---- ERASED

    static void erased() {
        String defs = "def pow(n:int,x:code int):code int=if n<1 then {1} else {~x * ~(pow (n-1) x)};";
        String[][] all = {{"{1}", "1", "0"}, {"{{1}}", "1", "0"}, {"{~{1}+2}", "3", "0"}, {"{{~{1}+2}}", "3", "0"}, {"run (close in {5})", "5", "1"},
            {"open (run (close in {5}))", "5", "1"}, {"open (close in 6)", "6", "1"}, {"close in 6", "6", "1"},
            {"close a=close in 1,b=close in 2 in (a,open b)", "(1,2)", "6"}, {"{fn x:int.x}", "fn", "1"},
            {"open (run (close in {fn x:int.x*x})) 7", "49", "3"}, {"let x=3 in {x+1}", "4", "1"}, {"{(1,true)}", "(1,true)", "1"},
            {"{let x=1 in x}", "1", "1"}, {"{(fn x:int.x) 3}", "3", "2"}, {"{rec f(x:int):int.x}", "fn", "1"}, {"{if true then 1 else 1/0}", "1", "0"},
            {"pow 3 {2}", "8", "8"}, {"{fn x:int.~(pow 3 {x})}", "fn", "1"}, {"{(fn x:int.~(pow 3 {x})) 5}", "125", "10"},
            {"({1},close in {2})", "(1,2)", "2"}, {"let c={fn y:int.y+1} in {(~c) 1}", "2", "3"}, {"{close a=close in 1 in open a}", "1", "3"}};
        for (String[] a : all) {
            Press p = new Press();
            p.load(defs);
            Press.due("erased " + a[0], gives(p, a[0], 500, true), a[1]);
            Press.due("STEPS of erased " + a[0], p.press.told(1), a[2]);
            Press.due("PARTS of erased " + a[0], p.press.told(2), 0);
            Press.due("SIZE of erased " + a[0], p.press.told(6), 0);
            Press.due("HEIGHT of erased " + a[0], p.press.told(7), 0);
            Press.due("what erased " + a[0] + " is", p.press.told(4),
                a[1].equals("fn") ? 3 : a[1].startsWith("(") ? 2 : 0);
            takes(defs, a[0], Integer.parseInt(a[2]), true);
        }
        // the TYPE is that of the text
        Press p = new Press();
        p.ask("close in {fn x:int.{x}}", 9, true);
        Press.due("type", p.type(0, 0), "box code (int->code int)");
        // nothing is BUILT or PRESSED, so nothing is FULL; a run doesn't begin
        told("", "{" + sized(301) + "}", 0, true, "0 0 0 0 0 151 0 0");
        told("", "{" + high(61) + "}", 0, true, "0 0 0 0 0 61 0 0");
        told("", "run (close in {" + sized(199) + "})", 1, true, "0 1 0 0 0 100 0 0");
        told("", "run (close in {1})", 0, true, "1 0 0 0 -1 0 0 0");
        String r = "def f(n:int):int=if n<1 then 7 else open (run (close in {1}))+f (n-1);";
        told(r, "f 99", 500, true, "0 199 0 100 0 106 0 0");
        told(r, "f 100", 500, true, "2 200 0 100 -1 0 0 0");
        told(r, "f 99", 500, false, "0 298 198 100 0 106 0 0");
        told(r, "f 99", 198, true, "1 198 0 99 -1 0 0 0");
        // what is in { } is worked out at once
        told("", "let c={1/0} in 2", 500, true, "4 0 0 0 -1 0 0 0");
        told("", "let c={1/0} in 2", 500, false, "0 1 3 0 0 2 0 0");
        told("", "let c={(1,2)} in 2", 500, true, "0 2 0 0 0 2 0 0");
        // the text has FAULTS as ever
        Press q = new Press();
        Press.due("erased FAULT", q.ask("{{{1}}}", 9, true), -1);
        Press.due("erased FAULT", q.fault(), "5 at 2");
        Press.due("erased FAULT", q.ask("{~1}", 9, true), -1);
        Press.due("erased FAULT", q.fault(), "4 at 1");
    }

    /** A question of a PLAIN TYPE gives the same with its stages and without them. */
    static void sameErased() {
        String defs = "def pow(n:int,x:code int):code int=if n<1 then {1} else {~x * ~(pow (n-1) x)};"
            + "def gen(n:int):code (int->int)={fn x:int.~(pow n {x})+n};";
        String[] all = {"open (run (close in gen 4)) 3", "open (run (close k=close in 3 in gen (open k))) 5", "fst (open (run (close in {(1,{2})})))",
            "let b=close in {fn x:int.x+1} in open (run b) (open (run b) 3)", "open (run (close in {let f=fn x:int.x*2 in f (f 3)}))",
            "open (run (open (run (close in {close in {5}}))))", "open (run (close in let c={2} in {~c+~c*~c}))",
            "(open (run (close in {fn p:(int,int).fst p-snd p}))) (9,4)", "open (run (close a=close in 3 in let n=open a in {n*n}))",
            "open (close a=run (close in {4}),b=run (close in {5}) in open a*open b)"};
        for (String e : all) {
            Press p = new Press();
            p.load(defs);
            String value = gives(p, e, 500, false);
            Press.due("a value: " + e, p.press.told(4), 0);
            Press.due("erased " + e, gives(p, e, 500, true), value);
        }
    }

    public static void main(String[] args) {
        ints();
        zero();
        steps();
        whenSteps();
        fiveHundred();
        deep();
        parts();
        sizes();
        measures();
        built();
        builtBehind();
        pressed();
        rooms();
        erased();
        sameErased();
        Press.finish("WorkEdgesTest");
    }
}
