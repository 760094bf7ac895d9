/** Part I of the document, sentence by sentence: the TAPE, TOKENS, and the FAULTS of the first round at their edges. */
public final class TextEdgesTest extends Checks {

    static final String[] WORDS = ("def fn rec let in if then else close run open fst snd true false int bool code box").split(" ");

    static boolean isWord(String s) {
        for (String w : WORDS) {
            if (w.equals(s)) {
                return true;
            }
        }
        return false;
    }

    // ---- "The TAPE has at most 3,000 bytes."

    static void longestTape() {
        gives("1" + times(" ", 2997) + "+2", "3");
        fault("1" + times("\n", 2998) + "+", "1 at 3000");
        fault(times(" ", 2999) + "x", "2 at 2999");
        fault(times(" ", 2999) + "!", "1 at 2999");
        String def = "def f(x:int):int=x;";
        loadFault(def + times(" ", 3000 - def.length()), "none");
        loadFault(times(" ", 2999) + ";", "1 at 2999");
        // what no longer fits leaves the TAPE as it was
        Press p = new Press();
        p.feed("7" + times(" ", 2979));
        Press.due("feed up to 3000", p.press.feed(0x20202020, 0x20202020, 0x20202020, 0x20202020, 0x20202b31), 3000);
        Press.due("feed beyond", p.press.feed(0x2b312b31, 0x2b312b31, 0x2b312b31, 0x2b312b31, 0x2b312b31), -1);
        Press.due("feed beyond again", p.press.feed(0, 0, 0, 0, 0), -1);
        Press.due("the TAPE", p.press.count(1), 3000);
        Press.due("its bytes", gives2(p, 3000), "8");
        Press.due("empty then", p.press.feed(0x33202020, 0x20202020, 0x20202020, 0x20202020, 0x20202020), 20);
        Press.due("its bytes", gives2(p, 20), "3");
    }

    static String gives2(Press p, int n) {
        int end = p.press.ask(n, 500, false);
        return end == 0 ? p.value() : "answered " + end + ", fault " + p.fault();
    }

    /** "four of each number, the highest first": each of the twenty places has its own byte. */
    static void bytesOfFeed() {
        String[] letters = {"let a=1 in a+3+4+5+6", "98765+4321*10-2+0001", "0==0==0             "};
        for (String text : letters) {
            for (int n = 1; n <= 20; n++) {
                Press p = new Press();
                p.feed(text);
                String got = gives2(p, n);
                Press q = new Press();
                q.feed(text.substring(0, n));
                Press.due(n + " bytes of " + text, got, gives2(q, n));
            }
        }
        for (int i = 0; i < 20; i++) {
            int[] four = {0x20202020, 0x20202020, 0x20202020, 0x20202020, 0x20202020};
            int shift = 24 - 8 * (i % 4);
            four[i / 4] = four[i / 4] & ~(255 << shift) | 0x37 << shift;
            Press p = new Press();
            p.press.feed(four[0], four[1], four[2], four[3], four[4]);
            Press.due("a 7 at " + i, gives2(p, i + 1), "7");
            p.press.feed(four[0], four[1], four[2], four[3], four[4]);
            Press.due("a 7 behind " + i, gives2(p, i), "answered -1, fault 1 at " + i);
            four[i / 4] = four[i / 4] & ~(255 << shift) | 0xff << shift;
            p.press.feed(four[0], four[1], four[2], four[3], four[4]);
            Press.due("255 at " + i, gives2(p, 20), "answered -1, fault 1 at " + i);
        }
    }

    // ---- "Blanks (32, 10) may stand between TOKENS"

    static String firstByte(int b) {
        if (b == 32 || b == 10) {
            return "1";
        }
        if (b >= '0' && b <= '9') {
            return String.valueOf((b - '0') * 10 + 1);
        }
        if (b >= 'a' && b <= 'z') {
            return "fault 2 at 0";
        }
        if (b == '~') {
            return "fault 5 at 0";
        }
        return b == '(' || b == '{' ? "fault 1 at 2" : "fault 1 at 0";
    }

    static String middleByte(int b) {
        if (b == 32 || b == 10) {
            return "fault 4 at 2";
        }
        if (b >= '0' && b <= '9') {
            return String.valueOf(101 + (b - '0') * 10);
        }
        if (b >= 'a' && b <= 'z') {
            return "fault 2 at 1";
        }
        switch (b) {
            case '+':
                return "2";
            case '-':
            case '%':
                return "0";
            case '*':
            case '/':
                return "1";
            case '<':
                return "false";
            case '~':
                return "fault 5 at 1";
            case '(':
            case '{':
                return "fault 1 at 3";
            default:
                return "fault 1 at 1";
        }
    }

    static void everyByte() {
        for (int b = 0; b < 256; b++) {
            gives((char) b + "1", firstByte(b));
            gives("1" + (char) b + "1", middleByte(b));
            gives("1" + (char) b, b == 32 || b == 10 ? "1" : b >= '0' && b <= '9' ? "1" + (char) b
                : b >= 'a' && b <= 'z' ? "fault 2 at 1" : "+-*/%<({~".indexOf(b) >= 0 ? "fault 1 at 2" : "fault 1 at 1");
        }
    }

    static void blanks() {
        gives("\n \n1 \n+\n 1 \n", "2");
        gives("let\nx\n=\n1\nin\nx", "1");
        gives("(fn f:int->int.f(f 2))(fn x:int.x+1)", "4");
        gives("if true then{1}else{2}", "{1}");
        gives("fst(1,2)", "1");
        // none inside of a TOKEN
        fault("1= =1", "1 at 1");
        fault("1 = = 1", "1 at 2");
        fault("fn x:int- >int.x", "1 at 8");
        fault("tr ue", "2 at 0");
        fault("1 2", "4 at 2");
        fault("let x y=1 in xy", "1 at 6");
        fault("cl ose in 1", "1 at 7");
        // none that isn't 32 or 10
        for (int b : new int[] {0, 9, 11, 12, 13, 28, 31, 33, 127, 133, 160, 255}) {
            fault("1+" + (char) b + "2", "1 at 2");
            fault("1+2" + (char) b, "1 at 3");
            fault((char) b + "", "1 at 0");
            loadFault("def f(x:int):int=x;" + (char) b, "1 at 19");
        }
    }

    // ---- "NAMES (a small letter, then small letters and digits, 8 at most)"

    static void names() {
        String long9 = "abcdefghi";
        for (int n = 1; n <= 8; n++) {
            String name = long9.substring(9 - n);
            gives("let " + name + "=" + n + " in " + name, "" + n);
            String digits = "z98765432".substring(0, n);
            gives("let " + digits + "=" + n + " in " + digits, "" + n);
        }
        for (int n : new int[] {9, 10, 16, 17, 64, 256, 2000}) {
            String name = times("a", n);
            fault("let " + name + "=1 in 1", "1 at 4");
            fault("b+" + name, "1 at 2");
            fault("a" + times("1", n - 1), "1 at 0");
            loadFault("def " + name + "(x:int):int=x;", "1 at 4");
            loadFault("def f(" + name + ":int):int=1;", "1 at 6");
            loadFault("def f(x:" + name, "1 at 8");
        }
        // those of 8 that differ at the first or the last place alone
        gives("let abcdefgh=1 in let abcdefgi=2 in let bbcdefgh=3 in abcdefgh", "1");
        gives("let abcdefgh=1 in let abcdefgi=2 in let bbcdefgh=3 in abcdefgi", "2");
        gives("let abcdefg=1 in let abcdefgh=2 in abcdefg", "1");
        gives("let a0=1 in let a00=2 in let a=3 in a0", "1");
        fault("let aaaaaaaa=1 in aaaaaaa", "2 at 18");
        // a digit, a great letter or another byte is no part of a NAME's beginning
        fault("9abcdefgh", "2 at 1");
        fault("9abcdefghi", "1 at 1");
        fault("aB", "1 at 1");
        fault("a_b", "1 at 1");
        fault("Ab", "1 at 0");
        fault("_a", "1 at 0");
        fault("a'", "1 at 1");
        // a WORD with more letters is a NAME, or none if it is too long
        for (String w : WORDS) {
            String more = w + "x";
            gives("let " + more + "=5 in " + more, "5");
            gives("let " + w + "0=5 in " + w + "0", "5");
            gives("let x" + w + "=5 in x" + w, "5");
            String less = w.substring(0, w.length() - 1);
            if (!isWord(less)) {
                gives("let " + less + "=5 in " + less, "5");
            }
            fault(w + "abcdefgh", "1 at 0");
        }
    }

    // ---- "WORDS are no NAMES"

    static void words() {
        for (String w : WORDS) {
            fault("let " + w + "=1 in 1", "1 at 4");
            fault("fn " + w + ":int.1", "1 at 3");
            fault("rec " + w + "(x:int):int.1", "1 at 4");
            fault("rec f(" + w + ":int):int.1", "1 at 6");
            loadFault("def " + w + "(x:int):int=1;", "1 at 4");
            loadFault("def f(" + w + ":int):int=1;", "1 at 6");
            loadFault("def f(x:int," + w + ":int):int=1;", "1 at 12");
            fault("close a=close in 1," + w + "=1 in 1", "1 at 19");
            if (!w.equals("in")) {
                fault("close " + w + "=1 in 1", "1 at 6");
            }
            if ("def in then else int bool code box".contains(w)) {
                fault(w, "1 at 0");
                fault("1+" + w, "1 at 2");
                fault("x " + w, "1 at 2");
            }
            if ("fn rec let if close".contains(w)) {
                fault("1+" + w, "1 at 2");
                fault("x " + w, "1 at 2");
                fault("fst " + w, "1 at 4");
            }
        }
    }

    // ---- "NUMBERS (1 to 10 digits, 2147483647 at most)"

    static void numbers() {
        for (int n = 1; n <= 10; n++) {
            gives(times("0", n), "0");
            gives(times("0", n - 1) + "1", "1");
            gives("1" + times("0", n - 1), "1" + times("0", n - 1));
        }
        for (int n : new int[] {11, 12, 19, 20, 21, 40, 2000}) {
            fault(times("0", n), "1 at 0");
            fault("1+" + times("0", n - 1) + "1", "1 at 2");
            fault("x " + times("9", n), "1 at 2");
        }
        gives("2147483646", "2147483646");
        gives("2147483647", "2147483647");
        for (String s : new String[] {"2147483648", "2147483650", "2147483700", "2147484000", "2200000000", "3000000000",
            "4294967295", "4294967296", "4294967297", "6442450944", "9999999999", "02147483647", "18446744073709551617"}) {
            fault(s, "1 at 0");
            fault("(7," + s + ")", "1 at 3");
            loadFault("def f(x:int):int=" + s + ";", "1 at 17");
        }
        gives("0214748364", "214748364");
        fault("-1", "1 at 0");
        fault("+1", "1 at 0");
        fault("1.5", "1 at 1");
        fault("12x", "2 at 2");
    }

    // ---- "SIGNS .. each as long as it can be"

    static void signs() {
        gives("1==1", "true");
        fault("1=1", "1 at 1");
        fault("1===1", "1 at 3");
        fault("1====1", "1 at 3");
        fault("let x==1 in 1", "1 at 5");
        fault("1->1", "1 at 1");
        fault("1-->1", "1 at 2");
        fault("1->>1", "1 at 1");
        fault("fn x:int-int.1", "1 at 8");
        fault("fn x:int-->int.1", "1 at 8");
        fault("1<=1", "1 at 2");
        fault("1=<1", "1 at 1");
        fault("1>1", "1 at 1");
        fault("1- >1", "1 at 3");
        gives("2-1", "1");
        cut("1==1", 3, "fault 1 at 3");
        cut("1==1", 2, "fault 1 at 1");
        cut("fn x:int->int.x", 10, "fault 1 at 10");
        cut("fn x:int->int.x", 9, "fault 1 at 8");
        cut("2147483647", 9, "214748364");
        cut("2147483648", 9, "214748364");
        cut("abcdefghi", 8, "fault 2 at 0");
        cut("trueish", 4, "true");
        cut("true", 3, "fault 2 at 0");
        gives("let x={7} in let y={~x*~x} in y", "{(7*7)}");
        fault("{~}", "1 at 2");
        fault("1*/2", "1 at 2");
        fault("1,2", "1 at 1");
        fault("1;", "1 at 1");
        fault("x:int", "1 at 1");
        fault("x.y", "1 at 1");
        fault("}", "1 at 0");
        fault(")", "1 at 0");
    }

    // ---- "1 FORM: .. the end (at the number of bytes)"

    static void theEnd() {
        String[] halves = {"", "1+", "(", "(1", "(1,", "(1,2", "{", "{1", "~", "run", "open", "fst", "snd", "fn", "fn x", "fn x:",
            "fn x:int", "fn x:int->", "fn x:code", "fn x:(", "fn x:(int", "fn x:(int,", "fn x:(int,int", "fn x:int.", "rec", "rec f",
            "rec f(", "rec f(x", "rec f(x:", "rec f(x:int", "rec f(x:int)", "rec f(x:int):", "rec f(x:int):int", "rec f(x:int):int.",
            "let", "let x", "let x=", "let x=1", "let x=1 in", "if", "if 1", "if 1 then", "if 1 then 2", "if 1 then 2 else", "close",
            "close x", "close x=", "close x=1", "close x=1,", "close x=1,y", "close x=1 in", "close in", "1==", "1<", "1*", "1-"};
        for (String h : halves) {
            fault(h, "1 at " + h.length());
            fault(h + " \n ", "1 at " + (h.length() + 3));
            fault(times(" ", 7) + h, "1 at " + (h.length() + 7));
            // what the TAPE has behind the n bytes is not looked at
            Press p = new Press();
            p.feed(h + " 1 in then else ) }");
            Press.due("ask of " + h.length(), p.press.ask(h.length(), 500, false), -1);
            Press.due("the end of " + h, p.fault(), "1 at " + h.length());
        }
        String def = "def f(x:int,y:bool):int=1;";
        for (int n = 1; n < def.length(); n++) {
            String part = def.substring(0, n);
            boolean within = part.endsWith("d") || part.endsWith("de");
            if (!within && !part.endsWith(":i") && !part.endsWith(":in") && !part.matches(".*:b|.*:bo|.*:boo")) {
                loadFault(part, "1 at " + n);
                loadFault(def + part, "1 at " + (def.length() + n));
            }
        }
        loadFault("", "none");
        loadFault(" \n", "none");
        loadFault(def, "none");
    }

    // ---- "6 MANY: the 801st TOKEN (the end is none)", "of one the least"

    static void tokens801() {
        // 10 TOKENS, those of the E, and the ;
        String head = "def f(x:int):int=";
        String e789 = "1" + times("+1", 394);
        loadFault(head + e789 + ";", "none");
        loadFault(head + e789 + ";  ", "none");
        int at = (head + e789).length() + 1;
        loadFault(head + e789 + ";def", "6 at " + at);
        loadFault(head + e789 + ";;", "1 at " + at);
        loadFault(head + e789 + ";?", "1 at " + at);
        String e790 = "1 1" + times("+1", 394);
        int end = (head + e790).length();
        loadFault(head + e790, "1 at " + end);
        loadFault(head + e790 + ";", "6 at " + end);
        loadFault(head + e790 + ")", "1 at " + end);
        loadFault(head + e790 + "\u00e9", "1 at " + end);
        loadFault(head + e790 + "+1;", "6 at " + end);
        // a question
        String q799 = "1" + times("+1", 399);
        fault(q799, "none");
        fault(q799 + "+", "1 at 800");
        fault(q799 + " 1", "4 at 800");
        fault(q799 + " 1 1", "6 at 802");
        fault(q799 + " 1 ", "4 at 800");
        fault(q799 + " 1)", "1 at 801");
        fault(q799 + " 1 99999999999", "1 at 802");
        fault(q799 + " 1 abcdefghi", "1 at 802");
        fault(q799 + " 1 x", "6 at 802");
        fault(q799 + " 1 fn", "1 at 802");
        fault(times(" ", 100) + q799 + " 1\n\n1", "6 at 903");
        // each kind of TOKEN counts as one, however long it is
        String t8 = "let abcdefgh=2147483647 in abcdefgh==";
        fault(times("(1)-", 200) + "1", "6 at 800");
        fault(times("(1)-", 199) + "(1)", "none");
        fault("1==" + times("(1)-", 199) + "1", "none");
        fault("if 1==" + times("(1)-", 198) + "1 then 2 else 3", "none");
        fault("if 1==" + times("(1)-", 198) + "1 then 2+4 else 3", "6 at " + ("if 1==" + times("(1)-", 198) + "1 then 2+4 ").length());
        fault(t8 + times("(1)-", 198) + "1", "none");
        fault(t8 + times("(1)-", 198) + "1+", "6 at " + (t8.length() + 793));
        fault(t8 + times("(1)-", 198) + "1)", "1 at " + (t8.length() + 793));
    }

    // ---- "the NAME of a 17th def, of a fifth one in its ( ), of a ninth one of a close"

    static void names17and5and9() {
        String d = "";
        for (int i = 1; i <= 16; i++) {
            d += "def d" + i + "(x:int):int=x;";
            Press p = new Press();
            Press.due(i + " DEFS", p.load(d), i);
            Press.due(i + " DEFS", p.press.count(0), i);
            Press.due("type of the last", p.type(1, i - 1), "int->int");
            Press.due("no more", p.press.type(1, i), -1);
        }
        int at = d.length();
        loadFault(d + "def d17(x:int):int=x;", "6 at " + (at + 4));
        loadFault(d + "def d1(x:int):int=x;", "6 at " + (at + 4));
        loadFault(d + "def  d17", "6 at " + (at + 5));
        loadFault(d + "def", "1 at " + (at + 3));
        loadFault(d + "def int", "1 at " + (at + 4));
        loadFault(d + "def (", "1 at " + (at + 4));
        loadFault(d + "x", "1 at " + at);
        loadFault(d + " ", "none");
        // the first round goes through all DEFS, ahead of any FAULT of the second
        loadFault("def a(x:int):int=nobody;" + d, "6 at " + (24 + d.length() - 21 + 4));
        String names = "a:int,b:int,c:int,d:int";
        loadFault("def f(a:int,b:int,c:int):int=c;", "none");
        loadFault("def f(" + names + "):int=d;", "none");
        loadFault("def f(" + names + ",e:int):int=d;", "6 at 30");
        loadFault("def f(" + names + ",a:int):int=d;", "6 at 30");
        loadFault("def f(" + names + ",e", "6 at 30");
        loadFault("def f(" + names + ",", "1 at 30");
        loadFault("def f(" + names + ",)", "1 at 30");
        loadFault("def f(" + names + ",1", "1 at 30");
        loadFault("def f(" + names + "):int=d;def g(" + names + "):int=a;", "none");
        String kept = "";
        for (int i = 1; i <= 8; i++) {
            kept += (i > 1 ? "," : "") + "k" + i + "=close in " + i;
            gives("close " + kept + " in open k" + i, "box " + i);
        }
        int c = 6 + kept.length() + 1;
        fault("close " + kept + ",k9=close in 9 in 1", "6 at " + c);
        fault("close " + kept + ",k1=close in 9 in 1", "6 at " + c);
        fault("close " + kept + ",k9", "6 at " + c);
        fault("close " + kept + ",", "1 at " + c);
        fault("close " + kept + ",in", "1 at " + c);
        fault("close " + kept + ",9", "1 at " + c);
        // each close has its own eight
        gives("close a=close " + kept + " in 1,b=close " + kept + " in 2 in open b", "box 2");
        gives("let x=close " + kept + " in 1 in close " + kept + " in open k8", "box 8");
    }

    // ---- "what would be open as the 25th"

    static final String LET = "let a=1 in ";

    /** All of one kind: 24 of them stand, the 25th is told. */
    static void isMany(String text, boolean want, int at) {
        Press p = new Press();
        p.ask(text, 0, false);
        Press.due("whether it is MANY: " + text, p.press.fault(0) == 6, want);
        Press.due("whether it is FORM: " + text, p.press.fault(0) == 1, false);
        if (want) {
            Press.due("where: " + text, p.press.fault(1), at);
        }
    }

    static void open25() {
        // what opens, ahead of what is inside, and what stands behind that
        String[][] kinds = {{"(", ")"}, {"{", "}"}, {"(1,", ")"}, {"~", ""}, {"run ", ""}, {"open ", ""}, {"fst ", ""}, {"snd ", ""},
            {"fn x:int.", ""}, {"rec f(x:int):int.", ""}, {"let x=1 in ", ""}, {"if true then 1 else ", ""}, {"close in ", ""},
            {"close k=1 in ", ""}, {"let x=", " in 1"}, {"if ", " then 1 else 1"}, {"if true then ", " else 1"},
            {"close k=", " in 1"}};
        for (String[] k : kinds) {
            boolean hasOwnBracket = k[0].startsWith("rec");
            // a rec opens its own ( for a while, so the 24th of them is told there
            int most = hasOwnBracket ? 23 : 24;
            isMany(times(k[0], most) + "1" + times(k[1], most), false, 0);
            String over = times(k[0], most) + k[0];
            isMany(over + "1", true, hasOwnBracket ? over.length() - k[0].length() + 5 : over.length() - k[0].length());
            // one kind inside of another
            isMany(times(LET, 23 - (hasOwnBracket ? 1 : 0)) + k[0] + "1" + k[1], false, 0);
            isMany(times(LET, 24) + k[0] + "1" + k[1], true, 24 * LET.length());
            isMany(times("(", 24) + k[0] + "1" + k[1], true, 24);
        }
        isMany(times(LET, 23) + "rec f(x:int):int.1", true, 23 * LET.length() + 5);
        isMany(times(LET, 24) + "rec f(x:int):int.1", true, 24 * LET.length());
    }

    /** What stands whole is open no more: the same again is no more open than it was. */
    static void openNoMore() {
        String[] ones = {"(1)", "{1}", "(1,2)", "~1", "run 1", "open 1", "fst 1", "snd 1", "fn x:int.1", "let c=1 in 1",
            "if true then 1 else 1", "close in 1", "close k=1 in 1"};
        for (String k : ones) {
            isMany(times(LET, 22) + "let b=" + k + " in " + k, false, 0);
            isMany(times(LET, 21) + "let b=" + k + " in let d=" + k + " in 1", false, 0);
            isMany(times(LET, 23) + "let b=" + k + " in 1", true, 23 * LET.length() + 6);
            isMany(times(LET, 22) + "if " + k + " then " + k + " else " + k, false, 0);
            isMany(times(LET, 22) + "close m=" + k + ",n=" + k + ",o=" + k + " in " + k, false, 0);
            isMany(times(LET, 22) + "(" + k + "," + k + ")", false, 0);
        }
        // a U is through with its last TOKEN
        for (String k : new String[] {"~", "run ", "open ", "fst ", "snd "}) {
            isMany(times(LET, 23) + k + "1 (2)", false, 0);
            isMany(times(LET, 23) + k + "1 " + k + "2+" + k + "3*" + k + "4", false, 0);
            isMany(times(LET, 23) + k + "(2)", true, 23 * LET.length() + k.length());
            isMany(times(LET, 22) + k + k + "1 {2}" + k + k + "true", false, 0);
        }
        // two at once: a bracket of a rec, or of a TYPE
        String[] twos = {"rec f(x:int):int.1", "fn x:int->int.1", "fn x:code int.1", "fn x:box int.1", "fn x:(int).1",
            "fn x:(int,int).1", "rec f(x:int):code int.1", "rec f(x:int):int->int.1", "rec f(x:int):(int).1"};
        for (String k : twos) {
            isMany(times(LET, 21) + "let b=" + k + " in " + k, false, 0);
            isMany(times(LET, 22) + k, false, 0);
            isMany(times(LET, 23) + k, true, 23 * LET.length() + (k.startsWith("rec") ? 5 : k.contains("->") ? 8 : 5));
        }
    }

    /** "-> code box till the TYPE, SORT behind is" through; the ( of a TYPE till it is closed. */
    static void openTypes() {
        String lets = times(LET, 21);
        int at = lets.length();
        // fn is the 22nd
        isMany(lets + "fn x:(int->int,int->int).1", false, 0);
        isMany(lets + "fn x:(int->int->int,int).1", true, at + 14);
        isMany(lets + "fn x:(code int,box int).1", false, 0);
        isMany(lets + "fn x:(code box int,int).1", true, at + 11);
        isMany(lets + "fn x:code int->code int.1", false, 0);
        isMany(lets + "fn x:code int->code code int.1", true, at + 20);
        isMany(lets + "fn x:code box int->int.1", false, 0);
        isMany(lets + "fn x:code box (int).1", true, at + 14);
        isMany(lets + "fn x:(int)->(int).1", false, 0);
        isMany(lets + "fn x:((int),(int)).1", false, 0);
        isMany(lets + "fn x:((int),((int),int)).1", true, at + 13);
        isMany(lets + "fn x:int->int->int.1", false, 0);
        isMany(lets + "fn x:int->int->int->int.1", true, at + 18);
        isMany(lets + "fn x:(int->int)->int->int.1", false, 0);
        isMany(lets + "fn x:int->(int->int).1", true, at + 14);
        isMany(lets + "rec f(x:code int):int.1", false, 0);
        isMany(lets + "rec f(x:code code int):int.1", true, at + 13);
        isMany(lets + "rec f(x:int->int):code int->code int.1", false, 0);
        isMany(lets + "rec f(x:int->int):code int->code code int.1", true, at + 33);
        isMany(lets + "fn x:int->int.fn y:int->int.1", false, 0);
        isMany(lets + "fn x:int->int.fn y:code int->int.fn z:code bool.1", true, at + 38);
        isMany("fn x:" + times("int->", 23) + "int.1", false, 0);
        isMany("fn x:" + times("int->", 24) + "int.1", true, 5 + 23 * 5 + 3);
        isMany("fn x:" + times("code ", 23) + "int.1", false, 0);
        isMany("fn x:" + times("code ", 24) + "int.1", true, 5 + 23 * 5);
        isMany("fn x:" + times("box ", 24) + "int.1", true, 5 + 23 * 4);
        isMany("fn x:" + times("(", 23) + "int" + times(")", 23) + ".1", false, 0);
        isMany("fn x:" + times("(", 24) + "int" + times(")", 24) + ".1", true, 5 + 23);
        // of a DEF: its ( is one till it is closed, def itself is none
        loadFault("def f(x:" + times("(", 23) + "int" + times(")", 23) + "):int=1;", "none");
        loadFault("def f(x:" + times("(", 24) + "int" + times(")", 24) + "):int=1;", "6 at 31");
        loadFault("def f(x:int,y:" + times("code ", 24) + "int):int=1;", "6 at " + (14 + 23 * 5));
        loadFault("def f(x:int):" + times("(", 24) + "int" + times(")", 24) + "=1;", "none");
        loadFault("def f(x:int):" + times("(", 25) + "int" + times(")", 25) + "=1;", "6 at 37");
        loadFault("def f(x:int):int=" + times("(", 24) + "1" + times(")", 24) + ";", "none");
        loadFault("def f(x:int):int=" + times("(", 25) + "1" + times(")", 25) + ";", "6 at 41");
        loadFault("def f(x:int):int=" + times(LET, 24) + "x;def g(x:int):int=" + times(LET, 24) + "x;", "none");
        loadFault("def f(x:int->int):int->int=x;def g(x:int):int=" + times(LET, 24) + "x;", "none");
    }

    /** "of one the least": what doesn't fit is FORM, even where it would be too many. */
    static void leastOfOne() {
        fault(times("(", 24) + ")", "1 at 24");
        fault(times("(", 24) + "!", "1 at 24");
        fault(times("(", 24) + "in", "1 at 24");
        fault(times("(", 24) + "1{", "6 at 25");
        fault(times("(", 24) + "1 let", "1 at 26");
        fault(times("(", 24) + "fst", "6 at 24");
        fault(times("fst ", 24) + "fn", "1 at 96");
        fault(times("fst ", 24) + "if", "1 at 96");
        fault(times("fst ", 24) + "(", "6 at 96");
        fault("fn x:" + times("code ", 23) + "->", "1 at 120");
        fault("fn x:" + times("code ", 23) + "int->", "1 at " + (5 + 23 * 5 + 5));
        fault("fn x:" + times("(", 23) + "->", "1 at 28");
        fault("fn x:" + times("(", 23) + "int->", "6 at 31");
        fault("fn x:" + times("(", 23) + "{", "1 at 28");
        fault("rec f" + times("(", 25), "1 at 6");
        // the first FAULT from the left, whichever KIND it is
        fault(times("(", 25) + "!", "6 at 24");
        fault("!" + times("(", 25), "1 at 0");
        fault(times("(", 24) + "1)))" + times("(", 4) + ")", "6 at 31");
        // and none of the second round ahead of one of the first
        fault("nobody+true+{{{~1}}}+!", "1 at 21");
        loadFault("def f(x:int,x:int):bool=nobody;def f(x:int):int=1", "1 at 49");
        fault("let x=nobody in " + times("(", 24) + "1", "6 at 39");
    }

    public static void main(String[] args) {
        longestTape();
        bytesOfFeed();
        everyByte();
        blanks();
        names();
        words();
        numbers();
        signs();
        theEnd();
        tokens801();
        names17and5and9();
        open25();
        openNoMore();
        openTypes();
        leastOfOne();
        Press.finish("TextEdgesTest");
    }
}
