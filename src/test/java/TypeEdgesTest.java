/** Part II of the document, sentence by sentence: where NAMES are known, TYPES, LEVELS, and 40 PARTS. */
public final class TypeEdgesTest extends Checks {

    /** A TYPE of so many PARTS, as flat as it can be. */
    static String wide(int n) {
        if (n == 1) {
            return "int";
        }
        if (n % 2 == 0) {
            return "code " + wide(n - 1);
        }
        int half = (n - 1) / 2;
        int more = half % 2 == 1 ? half : half + 1;
        return "(" + wide(more) + "," + wide(n - 1 - more) + ")";
    }

    /** An E of that TYPE. */
    static String e(int n) {
        if (n == 1) {
            return "1";
        }
        if (n % 2 == 0) {
            return "{" + e(n - 1) + "}";
        }
        int half = (n - 1) / 2;
        int more = half % 2 == 1 ? half : half + 1;
        return "(" + e(more) + "," + e(n - 1 - more) + ")";
    }

    static void faultWith(String program, String text, String want) {
        Press p = new Press();
        p.load(program);
        Press.due("fault of program " + program, p.fault(), "none");
        p.ask(text, 500, false);
        Press.due("fault of " + text, p.fault(), want);
    }

    // ---- "7 WIDE: a TYPE of more than 40 PARTS"

    static void wideOnes() {
        for (int n = 1; n <= 40; n++) {
            typed(e(n), wide(n));
            fault("let x=" + e(n) + " in 1", "none");
        }
        fault(e(41), "7 at 0");
        fault("1+" + e(41), "7 at 2");
        fault("let x=" + e(41) + " in nobody", "7 at 6");
        // a pair, of 40 and of 41 PARTS
        typed("(" + e(20) + "," + e(19) + ")", "(" + wide(20) + "," + wide(19) + ")");
        fault("(" + e(20) + "," + e(20) + ")", "7 at 0");
        fault("fst (" + e(20) + "," + e(20) + ")", "7 at 4");
        fault("fst (" + e(38) + ",1)", "none");
        fault("fst (" + e(39) + ",1)", "7 at 4");
        fault("snd ((1),(" + e(39) + "))", "7 at 4");
        // { }, close
        typed("{" + e(39) + "}", "code " + wide(39));
        fault("{" + e(40) + "}", "7 at 0");
        fault("snd ({" + e(40) + "},nobody)", "7 at 5");
        typed("close in " + e(39), "box " + wide(39));
        fault("close in " + e(40), "7 at 0");
        fault("fst (close in " + e(40) + ",nobody)", "7 at 5");
        fault("close x=close in " + e(39) + " in open x", "none");
        fault("close x=close in " + e(39) + " in x", "7 at 0");
        fault("close x=close in " + e(40) + " in 1", "7 at 8");
        // fn: of its NAME, then its E, then of itself
        typed("fn x:" + wide(38) + ".1", wide(38) + "->int");
        fault("fn x:" + wide(39) + ".1", "7 at 0");
        fault("fn x:" + wide(40) + ".1", "7 at 0");
        fault("fn x:" + wide(41) + ".1", "7 at 3");
        fault("(fn x:" + wide(39) + ".1) nobody", "7 at 1");
        fault("fn x:" + wide(40) + ".nobody", "2 at " + ("fn x:" + wide(40) + ".").length());
        fault("fn x:" + wide(41) + ".nobody", "7 at 3");
        typed("fn x:" + wide(18) + ".(x,{1})", wide(18) + "->(" + wide(18) + ",code int)");
        fault("fn x:" + wide(18) + ".(x,{{1}})", "7 at 0");
        fault("fn x:" + wide(19) + ".(x,x)", "7 at 0");
        fault("fn x:int.fn y:" + wide(36) + ".1", "none");
        fault("fn x:int.fn y:" + wide(37) + ".1", "7 at 0");
        fault("fn x:int.fn y:" + wide(39) + ".1", "7 at 9");
        // rec: of x, of f, and then its E
        typed("rec f(x:" + wide(38) + "):int.1", wide(38) + "->int");
        typed("rec f(x:int):" + wide(38) + ".f x", "int->" + wide(38));
        fault("rec f(x:" + wide(39) + "):int.nobody", "7 at 4");
        fault("rec f(x:int):" + wide(39) + ".nobody", "7 at 4");
        fault("rec f(x:" + wide(20) + "):" + wide(19) + ".f x", "none");
        fault("rec f(x:" + wide(20) + "):" + wide(20) + ".f x", "7 at 4");
        fault("rec f(x:" + wide(40) + "):int.nobody", "7 at 4");
        fault("rec f(x:" + wide(41) + "):int.nobody", "7 at 6");
        fault("rec f(x:" + wide(41) + "):" + wide(41) + ".nobody", "7 at 6");
        fault("rec f(x:int):" + wide(41) + ".nobody", "7 at 4");
        // -> counts as a PART, ( ) around a TYPE does not
        fault("fn f:(" + wide(18) + ")->(((" + wide(19) + "))).1", "none");
        fault("fn f:(" + wide(19) + ")->(((" + wide(19) + "))).1", "7 at 0");
        fault("fn f:" + wide(20) + "->" + wide(20) + ".1", "7 at 3");
        fault("fn f:" + wide(20) + "->" + wide(19) + ".1", "7 at 0");
        // what is narrower again
        fault("fst fst ((" + e(18) + "," + e(18) + ")," + e(1) + ")", "none");
        fault("run (close in {" + e(37) + "})", "none");
        // box code of 37 PARTS has 39, with what the run gives it is 39 + 1 + 38
        fault("fn x:box code " + wide(37) + ".run x", "7 at 0");
        fault("fn x:box code " + wide(17) + ".run x", "none");
        fault("open (close in " + e(39) + ")", "none");
    }

    static void wideDefs() {
        loadFault("def f(x:" + wide(38) + "):int=1;", "none");
        loadFault("def f(x:" + wide(39) + "):int=nobody;", "7 at 4");
        loadFault("def f(x:" + wide(40) + "):int=nobody;", "7 at 4");
        loadFault("def f(x:" + wide(41) + "):int=nobody;", "7 at 6");
        loadFault("def f(x:int):" + wide(38) + "=" + e(38) + ";", "none");
        loadFault("def f(x:int):" + wide(39) + "=" + e(39) + ";", "7 at 4");
        loadFault("def f(a:" + wide(9) + ",b:" + wide(9) + ",c:" + wide(9) + ",d:" + wide(8) + "):int=1;", "none");
        loadFault("def f(a:" + wide(9) + ",b:" + wide(9) + ",c:" + wide(9) + ",d:" + wide(9) + "):int=1;", "7 at 4");
        loadFault("def f(a:int,b:" + wide(41) + ",c:" + wide(41) + "):int=1;", "7 at 12");
        loadFault("def f(a:int,a:" + wide(41) + "):int=1;", "3 at 12");
        loadFault("def f(a:" + wide(41) + ",a:int):int=1;", "7 at 6");
        loadFault("def f(a:" + wide(40) + ",a:int):int=1;", "3 at " + ("def f(a:" + wide(40) + ",").length());
        loadFault("def f(x:int):int=x;def f(x:" + wide(41) + "):int=1;", "3 at 23");
        // used whole
        Press p = new Press();
        p.load("def f(x:" + wide(38) + "):int=7;");
        Press.due("type of f", p.type(1, 0), wide(38) + "->int");
        Press.due("f", gives(p, "f " + e(38), 9 + 38, false), "7");
        Press.due("f in a pair", gives(p, "(f,1)", 9, false), "fault 7 at 0");
        Press.due("f in a code", gives(p, "{f}", 9, false), "fault 7 at 0");
        Press.due("f in a fn", gives(p, "fn x:int.f", 9, false), "fault 7 at 0");
    }

    /** TYPES of 40 PARTS in one another are compared to their end. */
    static void deepTypes() {
        String one = "(let b=" + times("close in ", 20) + "1 in " + times("let b=close z=b in z in ", 19) + "b)";
        String other = one.replace("close in 1 in", "close in true in");
        String boxes = times("box ", 39);
        typed(one, boxes + "int");
        typed("let p=" + one + " in let q=" + one + " in if true then p else q", boxes + "int");
        String head = "let p=" + one + " in let q=" + other + " in if true then p ";
        fault(head + "else q", "4 at " + head.length());
        fault("let p=" + one + " in (p,1)", "7 at " + ("let p=" + one + " in ").length());
        fault("let p=" + one + " in close z=p in z", "7 at " + ("let p=" + one + " in ").length());
        fault("(fn x:(int,(int,(bool,int))).1) (1,(2,(3,4)))", "4 at 32");
        fault("(fn x:(int,(int,(int,bool))).1) (1,(2,(3,4)))", "4 at 32");
        fault("(fn x:(bool,(int,(int,int))).1) (1,(2,(3,4)))", "4 at 32");
        fault("(fn x:(int,(int,(int,int))).1) (1,(2,(3,4)))", "none");
        fault("(fn x:int->bool.1) (fn x:bool.x)", "4 at 19");
        fault("(fn x:int->bool.1) (fn x:int.x)", "4 at 19");
        fault("(fn x:int->bool.1) (fn x:int.true)", "none");
        fault("(fn x:code int.1) (close in 1)", "4 at 18");
        fault("(fn x:code box int.1) {{1}}", "4 at 22");
        fault("(fn x:(int->int)->int.1) (fn x:int.fn y:int.1)", "4 at 25");
    }

    // ---- where a NAME is known

    static final String F = "def f(x:int):int=x+1;def g(y:int,h:int->int):int=h (f y);";

    static void known() {
        // a DEF: in its own E and behind it, at all LEVELS
        loadFault("def f(x:int):int=f x;", "none");
        loadFault("def f(x:int):int=g x;def g(x:int):int=x;", "2 at 17");
        loadFault("def f(x:int):int=x;def g(x:int):int=f x;def h(x:int):int=f (g x);", "none");
        givesWith(F, "f 1", "2");
        givesWith(F, "{f 1}", "{(f 1)}");
        givesWith(F, "{{f 1}}", "{{(f 1)}}");
        givesWith(F, "{fn x:int.f x}", "{(fn x0:int.(f x0))}");
        givesWith(F, "{~(let y=f 1 in {y})}", "{2}");
        givesWith(F, "open (close in f 2)", "3");
        givesWith(F, "open (run (close in {f 2}))", "3");
        faultWith(F, "x", "2 at 0");
        faultWith(F, "y", "2 at 0");
        faultWith(F, "h", "2 at 0");
        loadFault("def f(x:int):int=x;def g(y:int):int=x;", "2 at 36");
        loadFault("def f(x:int,y:bool):bool=y;def g(y:int):int=f x y;", "2 at 46");
        loadFault("def f(f:int):int=f;", "none");
        loadFault("def f(f:int):int=f 1;", "4 at 19");
        loadFault("def f(x:int):int=x;def g(f:bool):bool=f;", "none");
        // fn's and rec's in their E
        fault("((fn x:int.x),x)", "2 at 14");
        fault("(fn x:int.x) x", "2 at 13");
        fault("((rec f(x:int):int.x),f)", "2 at 22");
        fault("((rec f(x:int):int.x),x)", "2 at 22");
        fault("((rec f(x:int):int.x),(fn y:int.y)) x", "2 at 36");
        gives("(rec f(x:int):int.if x<1 then 5 else f (x-1)) 3", "5");
        gives("(rec f(f:int):int.f+1) 3", "4");
        // let's in the E behind in
        fault("let x=x in 1", "2 at 6");
        fault("let x=fn y:int.x y in 1", "2 at 15");
        fault("((let x=1 in x),x)", "2 at 16");
        gives("let x=1 in let x=x+1 in x", "2");
        // close's in its last E
        fault("close x=close in 1,y=x in 1", "2 at 21");
        fault("close x=x in 1", "2 at 8");
        fault("(close x=close in 1 in 1,x)", "2 at 25");
        gives("close x=close in 4,y=close in 5 in open x*10+open y", "box 45");
        // and that knows of these and of DEFS alone
        fault("let y=1 in close in y", "2 at 20");
        fault("fn y:int.close in y", "2 at 18");
        fault("rec f(y:int):box int.close in f y", "2 at 30");
        fault("rec f(y:int):box int.close in y", "2 at 30");
        fault("close x=close in 1 in close in x", "2 at 31");
        fault("let y=close in 1 in close x=y in y", "2 at 33");
        fault("{let y=1 in close in y}", "2 at 21");
        fault("{let y={1} in close in ~y}", "2 at 24");
        fault("{fn y:int.~(open (close in {y}))}", "2 at 28");
        loadFault("def f(x:int):box int=close in x;", "2 at 30");
        gives("let y=3 in let b=close in 2 in y", "3");
        gives("let y=close in 7 in close x=y in open x", "box 7");
        gives("let y=close in 7 in let z=close x=y in open x in (y,z)", "(box 7,box 7)");
        // the innermost one of a NAME is meant
        gives("let x=1 in let x=true in x", "true");
        gives("let x=true in (fn x:int.x) 2", "2");
        gives("close x=close in 1 in let x=true in x", "box true");
        gives("let x=true in close x=close in 1 in open x", "box 1");
        gives("let x=1 in (let x=2 in x,x)", "(2,1)");
        gives("let x=1 in ((let x=2 in x),x)", "(2,1)");
        givesWith(F, "let f=5 in f", "5");
        givesWith(F, "snd (let f=5 in f,f 7)", "8");
        givesWith(F, "snd ((let f=5 in f),f 7)", "8");
        givesWith(F, "let f=true in open (close in f 2)", "3");
        givesWith(F, "close f=close in 9 in open f", "box 9");
        gives("{fn x:int.~(let x=5 in {x})+x}", "{(fn x0:int.(5+x0))}");
    }

    // ---- TWICE

    static void twice() {
        loadFault("def f(x:int):int=x;def f(x:int):int=x;", "3 at 23");
        loadFault("def f(x:int):int=x;def g(x:int):int=x;def f(y:bool,y:bool):int=nobody;", "3 at 42");
        loadFault("def f(x:int):int=nobody;def f(x:int):int=x;", "2 at 17");
        loadFault("def f(x:int,x:int):int=x;", "3 at 12");
        loadFault("def f(a:int,b:int,c:int,a:int):int=1;", "3 at 24");
        loadFault("def f(a:int,b:int,c:int,c:int):int=1;", "3 at 24");
        loadFault("def f(a:int,b:int,b:int,a:int):int=1;", "3 at 18");
        loadFault("def f(f:int,g:int):int=1;def g(f:int,g:int):int=1;", "none");
        fault("close a=close in 1,a=nobody in nobody", "3 at 19");
        fault("close a=close in 1,b=close in 1,a=1 in 1", "3 at 32");
        fault("close a=close in 1,b=close in 1,b=1 in 1", "3 at 32");
        fault("close a=close in 1,b=1,a=1 in 1", "4 at 19");
        fault("close a=close in 1,b=nobody,a=1 in 1", "2 at 21");
        fault("close a=close in 1,b=close a=close in 1 in a in 1", "none");
        String seven = "a=close in 1,b=close in 1,c=close in 1,d=close in 1,e=close in 1,f=close in 1,g=close in 1";
        fault("close " + seven + ",a=close in 1 in 1", "3 at " + (7 + seven.length()));
        fault("close " + seven + ",g=close in 1 in 1", "3 at " + (7 + seven.length()));
        fault("close " + seven + ",h=close in 1 in 1", "none");
        // no other NAME may not be told again
        fault("let x=1 in let x=2 in fn x:int.rec x(x:int):int.x", "none");
        loadFault("def a(x:int):int=1;", "none");
    }

    // ---- LEVELS

    static void levels() {
        gives("{{1}}", "{{1}}");
        fault("{{{1}}}", "5 at 2");
        fault("{{{nobody}}}", "5 at 2");
        fault("{{1+{2}}}", "5 at 4");
        fault("{{~{{1}}}}", "5 at 4");
        gives("{~{{1}}}", "{{1}}");
        gives("{{~{1}}}", "{{(~{1})}}");
        fault("~1", "5 at 0");
        fault("~nobody", "5 at 0");
        fault("1+~{1}", "5 at 2");
        fault("{~~{1}}", "5 at 2");
        fault("{~(1+~nobody)}", "5 at 5");
        fault("fn x:code int.~x", "5 at 14");
        loadFault("def f(x:code int):int=~x;", "5 at 22");
        loadFault("def f(x:int):code int={{{1}}};", "5 at 24");
        fault("close in ~{1}", "5 at 9");
        gives("{{~~{{1}}}}", "{{(~{1})}}");
        fault("{{~~~{1}}}", "5 at 4");
        // told at a LEVEL above that of its use
        fault("{fn x:code int.~x}", "5 at 16");
        fault("{fn x:int.~x}", "5 at 11");
        fault("{fn x:int.~(let y=x in {y})}", "5 at 18");
        fault("{rec f(x:int):int.~f}", "5 at 19");
        fault("{rec f(x:code int):int.~x}", "5 at 24");
        fault("{let x={1} in ~x}", "5 at 15");
        fault("{close x=close in {1} in ~(open x)}", "5 at 32");
        fault("{{fn x:code int.~x}}", "5 at 17");
        fault("{{fn x:code code int.~~x}}", "5 at 23");
        gives("{{fn x:int.~{x}}}", "{{(fn x0:int.(~{x0}))}}");
        gives("{fn x:int.~{x}}", "{(fn x0:int.x0)}");
        gives("{fn x:code int.{~x}}", "{(fn x0:code int.{(~x0)})}");
    }

    /** "below that and its TYPE is not PLAIN". */
    static void plain() {
        String[] plain = {"int", "bool", "(int,bool)", "((int,int),bool)", "(int,(bool,(int,int)))"};
        String[] other = {"code int", "box int", "int->int", "(int,code int)", "(box int,int)", "(int,int->int)",
            "((int,int),(int,code bool))", "((box int,int),int)", "code (int,int)"};
        for (String t : plain) {
            fault("fn x:" + t + ".{x}", "none");
            fault("fn x:" + t + ".{{x}}", "none");
            fault("{fn x:" + t + ".{x}}", "none");
            fault("rec f(x:" + t + "):code " + t + ".{x}", "none");
            fault("fn y:box " + t + ".close z=y in let x=open z in {x}", "none");
            loadFault("def f(x:" + t + "):code " + t + "={x};", "none");
            loadFault("def f(x:" + t + "):code code " + t + "={{x}};", "none");
        }
        for (String t : other) {
            int n = t.length();
            fault("fn x:" + t + ".x", "none");
            fault("fn x:" + t + ".{x}", "5 at " + (n + 7));
            fault("fn x:" + t + ".{{x}}", "5 at " + (n + 8));
            fault("{fn x:" + t + ".{x}}", "5 at " + (n + 8));
            fault("{fn x:" + t + ".x}", "none");
            fault("{{fn x:" + t + ".x}}", "none");
            fault("{fn x:" + t + ".~{x}}", "none");
            fault("rec f(x:" + t + "):code " + t + ".{x}", "5 at " + (2 * n + 17));
            loadFault("def f(x:" + t + "):code " + t + "={x};", "5 at " + (2 * n + 17));
        }
        fault("rec f(x:int):code int.{f x}", "5 at 23");
        fault("close x=close in 1 in {open x}", "5 at 28");
        fault("let x=fn y:int.y in {x 1}", "5 at 21");
        fault("let x=fst (1,{2}) in {x}", "none");
        fault("let x=(1,{2}) in {fst x}", "5 at 22");
        // the LEVEL is asked behind whether it is known
        fault("{nobody}", "2 at 1");
        fault("{fn x:int.~nobody}", "2 at 11");
        // ( ) around a TYPE leave it as it is
        fault("fn x:((int)).{x}", "none");
        fault("fn x:((int,(bool))).{x}", "none");
    }

    // ---- what each E wants, and where it is told

    static void wants() {
        for (String sign : new String[] {"+", "-", "*", "/", "%", "<"}) {
            fault("1" + sign + "2", "none");
            for (String bad : new String[] {"true", "(1,2)", "{1}", "(fn x:int.x)", "(close in 1)"}) {
                fault("1" + sign + bad, "4 at 1");
                fault(bad + sign + "1", "4 at " + bad.length());
                fault(bad + sign + bad, "4 at " + bad.length());
            }
        }
        fault("1==2", "none");
        fault("true==(1<2)", "none");
        fault("1==true", "4 at 1");
        fault("true==1", "4 at 4");
        for (String bad : new String[] {"(1,2)", "{1}", "(fn x:int.x)", "(close in 1)"}) {
            fault(bad + "==" + bad, "4 at " + bad.length());
            fault("fst " + bad, bad.equals("(1,2)") ? "none" : "4 at 0");
            fault("1+snd " + bad, bad.equals("(1,2)") ? "none" : "4 at 2");
            fault("open " + bad, bad.startsWith("(close") ? "none" : "4 at 0");
            fault("run " + bad, "4 at 0");
            fault("{~" + bad + "}", bad.equals("{1}") ? "none" : "4 at 1");
            fault("if " + bad + " then nobody else 1", "4 at 0");
            fault("close x=" + bad + " in 1", bad.startsWith("(close") ? "none" : "4 at 6");
            fault(bad + " {nobody}", "2 at " + (bad.length() + 2));
            fault(bad + " {true}", "4 at " + (bad.length() + 1));
        }
        fault("fst 1", "4 at 0");
        fault("snd true", "4 at 0");
        fault("run (close in {1})", "none");
        fault("1==open (run (close in 1))", "4 at 9");
        fault("run {close in 1}", "4 at 0");
        fault("1 2", "4 at 2");
        fault("(fn x:int.fn y:bool.x) 1 2", "4 at 25");
        fault("(fn x:int.fn y:bool.x) true 2", "4 at 23");
        fault("(fn x:int.x) 1 2", "4 at 15");
        fault("(fn x:int.x) (fst (true,1))", "4 at 13");
        fault("(fn x:int.x) fst (true,1)", "4 at 13");
        fault("rec f(x:int):bool.x", "4 at 0");
        fault("1+(rec f(x:int):bool.x) 1", "4 at 3");
        fault("rec f(x:int):int.f", "4 at 0");
        fault("if 1 then 2 else 3", "4 at 0");
        fault("if true then 2 else false", "4 at 15");
        fault("if true then {2} else {false}", "4 at 17");
        fault("if true then 2 else nobody", "2 at 20");
        fault("if true then nobody else false", "2 at 13");
        fault("if nobody then 2 else 3", "2 at 3");
        typed("if true then {2} else {3}", "code int");
        typed("let x=1 in {x}", "code int");
        typed("fst ((1,true),2)", "(int,bool)");
        typed("snd (1,{true})", "code bool");
        typed("run (close in {(1,true)})", "box (int,bool)");
        typed("open (close in fn x:int.x)", "int->int");
        typed("close x=close in 1 in x", "box box int");
        typed("close in {1}", "box code int");
        typed("{fn x:int.~{true}}", "code (int->bool)");
        typed("rec f(x:int):int->bool.f x", "int->int->bool");
        typed("1<2", "bool");
        typed("1%2", "int");
        typed("true==false", "bool");
        loadFault("def f(x:int):bool=x;", "4 at 4");
        loadFault("def f(x:int):bool=nobody;", "2 at 18");
        loadFault("def f(x:int):int=x;def g(x:int):bool=x;def g(x:int):int=nobody;", "4 at 23");
        loadFault("def f(x:int):int=f;", "4 at 4");
    }

    /** "its parts from the left, each wholly, then .. itself", the first FAULT ends it. */
    static void order() {
        fault("true+nobody", "2 at 5");
        fault("nobody+true", "2 at 0");
        fault("(1+true,nobody)", "4 at 2");
        fault("(nobody,1+true)", "2 at 1");
        fault("(1 2) nobody", "4 at 3");
        fault("1 nobody", "2 at 2");
        fault("1+true*2+nobody", "4 at 6");
        fault("1*true+nobody", "4 at 1");
        fault("1+true<nobody", "4 at 1");
        fault("1<true+nobody", "2 at 7");
        fault("1 2+nobody", "4 at 2");
        fault("let x=1+true in nobody", "4 at 7");
        fault("fst (1,nobody)", "2 at 7");
        fault("fst nobody", "2 at 4");
        fault("open nobody", "2 at 5");
        fault("run nobody", "2 at 4");
        fault("{~nobody}", "2 at 2");
        fault("{{1}+nobody}", "2 at 5");
        fault("rec f(x:int):bool.nobody", "2 at 18");
        fault("if 1 then nobody else nobody", "4 at 0");
        fault("close x=1 in nobody", "4 at 6");
        fault("close x=nobody in 1", "2 at 8");
        fault("close x=close in 1,y=1,z=nobody in 1", "4 at 19");
        fault("close x=close in nobody,x=1 in 1", "2 at 17");
        fault("close x=close in 1 in nobody+true", "2 at 22");
        loadFault("def f(x:int):int=true;def g(x:int):int=nobody;", "4 at 4");
        loadFault("def f(x:int):int=1;def g(x:int):int=nobody;def g(x:int):int=1;", "2 at 36");
    }

    public static void main(String[] args) {
        wideOnes();
        wideDefs();
        deepTypes();
        known();
        twice();
        levels();
        plain();
        wants();
        order();
        Press.finish("TypeEdgesTest");
    }
}
