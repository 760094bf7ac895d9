import java.util.ArrayList;
import java.util.Arrays;
import java.util.HashMap;
import java.util.HashSet;
import java.util.List;
import java.util.Map;
import java.util.Set;

/**
 * The document once more, written in another way than CodePress: trees, recursion, exceptions and
 * maps, a call for each rule of the grammar. Tests set the two against one another.
 */
final class Plain {

    static final List<String> WORDS = Arrays.asList("def", "fn", "rec", "let", "in", "if", "then", "else",
        "close", "run", "open", "fst", "snd", "true", "false", "int", "bool", "code", "box");

    record Token(String kind, String text, int at) { }

    record Type(String kind, Type left, Type right) {
        int parts() {
            return 1 + (left == null ? 0 : left.parts()) + (right == null ? 0 : right.parts());
        }

        boolean plain() {
            return kind.equals("int") || kind.equals("bool")
                || kind.equals(",") && left.plain() && right.plain();
        }

        String written() {
            switch (kind) {
                case "int":
                case "bool":
                    return kind;
                case ",":
                    return "(" + left.written() + "," + right.written() + ")";
                case "->":
                    return left.sort() + "->" + right.written();
                default:
                    return kind + " " + left.sort();
            }
        }

        String sort() {
            return kind.equals("->") ? "(" + written() + ")" : written();
        }
    }

    static final Type INT = new Type("int", null, null);
    static final Type BOOL = new Type("bool", null, null);

    /** A told NAME; each is an object of its own. */
    static final class Told {
        final String name;
        final int at;
        Type type;
        int level;

        Told(String name, int at) {
            this.name = name;
            this.at = at;
        }
    }

    static final class Def {
        String name;
        int at;
        List<Told> params = new ArrayList<>();
        Type gives;
        Type type;
        Expr body;
    }

    /** A PART: kind is num, truth, name, def, an operator, app, pair, fn, rec, let, if, close, {}, ~, .. */
    static final class Expr {
        final String kind;
        final int at;
        final int mark;
        final List<Expr> kids = new ArrayList<>();
        final List<Told> tells = new ArrayList<>();
        int number;
        String name;
        Type type;
        Told told;
        Def def;

        Expr(String kind, int at, int mark, Expr... kids) {
            this.kind = kind;
            this.at = at;
            this.mark = mark;
            this.kids.addAll(Arrays.asList(kids));
        }

        int size() {
            int n = 1;
            for (Expr e : kids) {
                n += e.size();
            }
            return n;
        }

        int height() {
            int n = 0;
            for (Expr e : kids) {
                n = Math.max(n, e.height());
            }
            return n + 1;
        }
    }

    static final class Fault extends RuntimeException {
        private static final long serialVersionUID = 1;
        final int kind;
        final int at;

        Fault(int kind, int at) {
            super("fault " + kind + " at " + at, null, false, false);
            this.kind = kind;
            this.at = at;
        }
    }

    static final class End extends RuntimeException {
        private static final long serialVersionUID = 1;
        final int kind;

        End(int kind) {
            super("end " + kind, null, false, false);
            this.kind = kind;
        }
    }

    // ---- state
    List<Def> defs = new ArrayList<>();
    int faultKind = 0;
    int faultAt = -1;
    int[] told = {-1, 0, 0, 0, -1, 0, 0, 0};
    String typeText = null;
    String valueText = null;
    int gave = 0;

    int load(String text) {
        try {
            Reader r = new Reader(text);
            List<Def> fresh = r.program();
            checkProgram(fresh);
            defs = fresh;
            faultKind = 0;
            faultAt = -1;
            return defs.size();
        } catch (Fault f) {
            faultKind = f.kind;
            faultAt = f.at;
            return -1;
        }
    }

    int ask(String text, int steps, boolean erased) {
        Expr e;
        Type t;
        try {
            Reader r = new Reader(text);
            e = r.question();
            t = new Check(defs).expr(e, new ArrayList<>(), 0);
            faultKind = 0;
            faultAt = -1;
        } catch (Fault f) {
            faultKind = f.kind;
            faultAt = f.at;
            return -1;
        }
        Work w = new Work(steps, erased);
        Object v = null;
        int end = 0;
        try {
            v = w.eval(e, new HashMap<>());
        } catch (End x) {
            end = x.kind;
        }
        typeText = t.written();
        valueText = null;
        told = new int[] {end, w.steps, w.parts, w.deepest, -1, 0, 0, 0};
        if (end == 0) {
            gave++;
            valueText = new Show().value(v);
            if (valueText.length() > 20000) {
                valueText = null;
            }
            if (v instanceof Integer) {
                told[4] = 0;
                told[5] = (Integer) v;
            } else if (v instanceof Boolean) {
                told[4] = 1;
                told[5] = ((Boolean) v) ? 1 : 0;
            } else if (v instanceof Pair) {
                told[4] = 2;
            } else if (v instanceof Fun) {
                told[4] = 3;
            } else if (v instanceof CodeValue) {
                told[4] = 4;
                told[6] = ((CodeValue) v).e.size();
                told[7] = ((CodeValue) v).e.height();
            } else {
                told[4] = 5;
            }
        }
        return end;
    }

    // ---- first round

    static final class Reader {
        final String text;
        int pos = 0;
        Token token;
        int taken = 0;
        int open = 0;

        Reader(String text) {
            this.text = text;
            token = lex();
        }

        Token lex() {
            while (pos < text.length() && (text.charAt(pos) == ' ' || text.charAt(pos) == '\n')) {
                pos++;
            }
            int at = pos;
            if (pos == text.length()) {
                return new Token("end", "", at);
            }
            String rest = text.substring(pos);
            String run = match(rest, "^[a-z][a-z0-9]*");
            if (run != null) {
                pos += run.length();
                if (run.length() > 8) {
                    return new Token("bad", run, at);
                }
                return new Token(WORDS.contains(run) ? run : "name", run, at);
            }
            run = match(rest, "^[0-9]+");
            if (run != null) {
                pos += run.length();
                boolean bad = run.length() > 10 || Long.parseLong(run) > 2147483647L;
                return new Token(bad ? "bad" : "number", run, at);
            }
            run = match(rest, "^(==|->|[(){},;:.=<+\\-*/%~])");
            if (run != null) {
                pos += run.length();
                return new Token(run, run, at);
            }
            return new Token("bad", "", at);
        }

        static String match(String s, String re) {
            java.util.regex.Matcher m = java.util.regex.Pattern.compile(re).matcher(s);
            return m.find() ? m.group() : null;
        }

        boolean is(String... kinds) {
            return Arrays.asList(kinds).contains(token.kind);
        }

        Token form() {
            throw new Fault(1, token.at);
        }

        Token many() {
            throw new Fault(6, token.at);
        }

        Token take(String kind) {
            if (!is(kind)) {
                form();
            }
            if (taken == 800) {
                many();
            }
            Token t = token;
            taken++;
            token = lex();
            return t;
        }

        Token takeOpen(String kind) {
            if (!is(kind)) {
                form();
            }
            if (open == 24) {
                many();
            }
            open++;
            return take(kind);
        }

        Token takeName(int which, int most) {
            if (is("name") && which > most) {
                many();
            }
            return take("name");
        }

        List<Def> program() {
            List<Def> all = new ArrayList<>();
            while (!is("end")) {
                take("def");
                Def d = new Def();
                Token n = takeName(all.size() + 1, 16);
                d.name = n.text();
                d.at = n.at();
                takeOpen("(");
                do {
                    if (!d.params.isEmpty()) {
                        take(",");
                    }
                    Token p = takeName(d.params.size() + 1, 4);
                    Told t = new Told(p.text(), p.at());
                    take(":");
                    t.type = type();
                    d.params.add(t);
                } while (is(","));
                take(")");
                open--;
                take(":");
                d.gives = type();
                d.type = d.gives;
                for (int i = d.params.size() - 1; i >= 0; i--) {
                    d.type = new Type("->", d.params.get(i).type, d.type);
                }
                take("=");
                d.body = e();
                take(";");
                all.add(d);
            }
            return all;
        }

        Expr question() {
            Expr e = e();
            if (!is("end")) {
                form();
            }
            return e;
        }

        Type type() {
            Type s = sort();
            if (is("->")) {
                takeOpen("->");
                s = new Type("->", s, type());
                open--;
            }
            return s;
        }

        Type sort() {
            if (is("int")) {
                take("int");
                return INT;
            }
            if (is("bool")) {
                take("bool");
                return BOOL;
            }
            if (is("code", "box")) {
                Token t = takeOpen(token.kind);
                Type in = sort();
                open--;
                return new Type(t.kind(), in, null);
            }
            if (!is("(")) {
                form();
            }
            takeOpen("(");
            Type t = type();
            if (is(",")) {
                take(",");
                t = new Type(",", t, type());
            }
            take(")");
            open--;
            return t;
        }

        Expr e() {
            int at = token.at;
            Expr x;
            switch (token.kind) {
                case "fn": {
                    takeOpen("fn");
                    Token n = take("name");
                    take(":");
                    x = new Expr("fn", at, at);
                    x.tells.add(new Told(n.text(), n.at()));
                    x.type = type();
                    take(".");
                    x.kids.add(e());
                    open--;
                    return x;
                }
                case "rec": {
                    takeOpen("rec");
                    x = new Expr("rec", at, at);
                    Token f = take("name");
                    takeOpen("(");
                    Token n = take("name");
                    x.tells.add(new Told(f.text(), f.at()));
                    x.tells.add(new Told(n.text(), n.at()));
                    take(":");
                    Type a = type();
                    take(")");
                    open--;
                    take(":");
                    x.type = new Type("->", a, type());
                    take(".");
                    x.kids.add(e());
                    open--;
                    return x;
                }
                case "let": {
                    takeOpen("let");
                    Token n = take("name");
                    x = new Expr("let", at, at);
                    x.tells.add(new Told(n.text(), n.at()));
                    take("=");
                    x.kids.add(e());
                    take("in");
                    x.kids.add(e());
                    open--;
                    return x;
                }
                case "if": {
                    takeOpen("if");
                    Expr c = e();
                    take("then");
                    Expr a = e();
                    Token el = take("else");
                    x = new Expr("if", at, el.at(), c, a, e());
                    open--;
                    return x;
                }
                case "close": {
                    takeOpen("close");
                    x = new Expr("close", at, at);
                    if (!is("in")) {
                        int k = 0;
                        do {
                            if (k > 0) {
                                take(",");
                            }
                            k++;
                            Token n = takeName(k, 8);
                            x.tells.add(new Told(n.text(), n.at()));
                            take("=");
                            x.kids.add(e());
                        } while (is(","));
                    }
                    take("in");
                    x.kids.add(e());
                    open--;
                    return x;
                }
                default:
                    return c();
            }
        }

        Expr c() {
            Expr x = s();
            if (is("==", "<")) {
                Token t = take(token.kind);
                x = new Expr(t.kind(), x.at, t.at(), x, s());
            }
            return x;
        }

        Expr s() {
            Expr x = p();
            while (is("+", "-")) {
                Token t = take(token.kind);
                x = new Expr(t.kind(), x.at, t.at(), x, p());
            }
            return x;
        }

        Expr p() {
            Expr x = a();
            while (is("*", "/", "%")) {
                Token t = take(token.kind);
                x = new Expr(t.kind(), x.at, t.at(), x, a());
            }
            return x;
        }

        Expr a() {
            Expr x = u();
            while (is("number", "true", "false", "name", "(", "{", "~", "run", "open", "fst", "snd")) {
                int at = token.at;
                x = new Expr("app", x.at, at, x, u());
            }
            return x;
        }

        Expr u() {
            int at = token.at;
            Expr x;
            switch (token.kind) {
                case "number":
                    x = new Expr("num", at, at);
                    x.number = Integer.parseInt(take("number").text());
                    return x;
                case "true":
                case "false":
                    x = new Expr("truth", at, at);
                    x.number = take(token.kind).text().equals("true") ? 1 : 0;
                    return x;
                case "name":
                    x = new Expr("name", at, at);
                    x.name = take("name").text();
                    return x;
                case "(":
                    takeOpen("(");
                    x = e();
                    if (is(",")) {
                        take(",");
                        x = new Expr("pair", at, at, x, e());
                    }
                    take(")");
                    open--;
                    return x;
                case "{":
                    takeOpen("{");
                    x = new Expr("{}", at, at, e());
                    take("}");
                    open--;
                    return x;
                case "~":
                case "run":
                case "open":
                case "fst":
                case "snd":
                    takeOpen(token.kind);
                    x = new Expr(text.charAt(at) == '~' ? "~" : Reader.match(text.substring(at), "^[a-z]+"),
                        at, at, u());
                    open--;
                    return x;
                default:
                    form();
                    return null;
            }
        }
    }

    // ---- second round

    static void checkProgram(List<Def> all) {
        List<Def> known = new ArrayList<>();
        for (Def d : all) {
            for (Def k : known) {
                if (k.name.equals(d.name)) {
                    throw new Fault(3, d.at);
                }
            }
            Set<String> names = new HashSet<>();
            List<Told> scope = new ArrayList<>();
            for (Told t : d.params) {
                if (!names.add(t.name)) {
                    throw new Fault(3, t.at);
                }
                wide(t.type, t.at);
                scope.add(t);
            }
            wide(d.type, d.at);
            known.add(d);
            Type t = new Check(known).expr(d.body, scope, 0);
            if (!t.equals(d.gives)) {
                throw new Fault(4, d.at);
            }
        }
    }

    static Type wide(Type t, int at) {
        if (t.parts() > 40) {
            throw new Fault(7, at);
        }
        return t;
    }

    static final class Check {
        final List<Def> known;

        Check(List<Def> known) {
            this.known = new ArrayList<>(known);
        }

        Type expr(Expr e, List<Told> scope, int level) {
            return wide(bare(e, scope, level), e.at);
        }

        static void want(boolean fits, int at) {
            if (!fits) {
                throw new Fault(4, at);
            }
        }

        static List<Told> with(List<Told> scope, Told... more) {
            List<Told> all = new ArrayList<>(scope);
            all.addAll(Arrays.asList(more));
            return all;
        }

        static Told tell(Told t, Type type, int level) {
            t.type = type;
            t.level = level;
            return t;
        }

        Type bare(Expr e, List<Told> scope, int level) {
            switch (e.kind) {
                case "num":
                    return INT;
                case "truth":
                    return BOOL;
                case "name":
                    return name(e, scope, level);
                case "pair": {
                    Type a = expr(e.kids.get(0), scope, level);
                    return new Type(",", a, expr(e.kids.get(1), scope, level));
                }
                case "fst":
                case "snd": {
                    Type a = expr(e.kids.get(0), scope, level);
                    want(a.kind.equals(","), e.mark);
                    return e.kind.equals("fst") ? a.left : a.right;
                }
                case "app": {
                    Type f = expr(e.kids.get(0), scope, level);
                    Type u = expr(e.kids.get(1), scope, level);
                    want(f.kind.equals("->") && f.left.equals(u), e.mark);
                    return f.right;
                }
                case "fn": {
                    Told x = e.tells.get(0);
                    wide(e.type, x.at);
                    Type b = expr(e.kids.get(0), with(scope, tell(x, e.type, level)), level);
                    return new Type("->", e.type, b);
                }
                case "rec": {
                    Told f = e.tells.get(0);
                    Told x = e.tells.get(1);
                    wide(e.type.left, x.at);
                    wide(e.type, f.at);
                    List<Told> in = with(scope, tell(f, e.type, level), tell(x, e.type.left, level));
                    want(expr(e.kids.get(0), in, level).equals(e.type.right), e.mark);
                    return e.type;
                }
                case "let": {
                    Type a = expr(e.kids.get(0), scope, level);
                    return expr(e.kids.get(1), with(scope, tell(e.tells.get(0), a, level)), level);
                }
                case "if": {
                    want(expr(e.kids.get(0), scope, level).equals(BOOL), e.at);
                    Type a = expr(e.kids.get(1), scope, level);
                    Type b = expr(e.kids.get(2), scope, level);
                    want(a.equals(b), e.mark);
                    return a;
                }
                default:
                    return staged(e, scope, level);
            }
        }

        Type staged(Expr e, List<Told> scope, int level) {
            switch (e.kind) {
                case "{}":
                    if (level + 1 == 3) {
                        throw new Fault(5, e.mark);
                    }
                    return new Type("code", expr(e.kids.get(0), scope, level + 1), null);
                case "~": {
                    if (level == 0) {
                        throw new Fault(5, e.mark);
                    }
                    Type c = expr(e.kids.get(0), scope, level - 1);
                    want(c.kind.equals("code"), e.mark);
                    return c.left;
                }
                case "close": {
                    List<Told> in = new ArrayList<>();
                    for (int i = 0; i < e.tells.size(); i++) {
                        Told x = e.tells.get(i);
                        for (int j = 0; j < i; j++) {
                            if (e.tells.get(j).name.equals(x.name)) {
                                throw new Fault(3, x.at);
                            }
                        }
                        Type t = expr(e.kids.get(i), scope, level);
                        want(t.kind.equals("box"), x.at);
                        in.add(tell(x, t, level));
                    }
                    return new Type("box", expr(e.kids.get(e.tells.size()), in, level), null);
                }
                case "open": {
                    Type b = expr(e.kids.get(0), scope, level);
                    want(b.kind.equals("box"), e.mark);
                    return b.left;
                }
                case "run": {
                    Type b = expr(e.kids.get(0), scope, level);
                    want(b.kind.equals("box") && b.left.kind.equals("code"), e.mark);
                    return new Type("box", b.left.left, null);
                }
                default: {
                    Type a = expr(e.kids.get(0), scope, level);
                    Type b = expr(e.kids.get(1), scope, level);
                    boolean ints = a.equals(INT) && b.equals(INT);
                    boolean bools = a.equals(BOOL) && b.equals(BOOL) && e.kind.equals("==");
                    want(ints || bools, e.mark);
                    return e.kind.equals("==") || e.kind.equals("<") ? BOOL : INT;
                }
            }
        }

        Type name(Expr e, List<Told> scope, int level) {
            for (int i = scope.size() - 1; i >= 0; i--) {
                Told t = scope.get(i);
                if (t.name.equals(e.name)) {
                    if (t.level > level || t.level < level && !t.type.plain()) {
                        throw new Fault(5, e.at);
                    }
                    e.told = t;
                    return t.type;
                }
            }
            for (Def d : known) {
                if (d.name.equals(e.name)) {
                    e.def = d;
                    return d.type;
                }
            }
            throw new Fault(2, e.at);
        }
    }

    // ---- values

    record Pair(Object left, Object right) { }

    record CodeValue(Expr e) { }

    record BoxValue(Object in) { }

    /** A FUNCTION: of a fn, a rec or a DEF with the arguments that it has. */
    static final class Fun {
        Expr e;
        Def def;
        Map<Told, Object> env;
        int have;
    }

    static final class Work {
        final int allowed;
        final boolean erased;
        int steps = 0;
        int parts = 0;
        int begun = 0;
        int deepest = 0;

        Work(int allowed, boolean erased) {
            this.allowed = allowed;
            this.erased = erased;
        }

        void step() {
            if (steps == allowed) {
                throw new End(1);
            }
            steps++;
        }

        void begin() {
            if (steps == allowed) {
                throw new End(1);
            }
            if (begun == 100) {
                throw new End(2);
            }
            steps++;
        }

        void part() {
            if (parts == 300) {
                throw new End(3);
            }
            parts++;
        }

        static Map<Told, Object> with(Map<Told, Object> env, Told t, Object v) {
            Map<Told, Object> more = new HashMap<>(env);
            more.put(t, v);
            return more;
        }

        Object eval(Expr e, Map<Told, Object> env) {
            switch (e.kind) {
                case "num":
                    return e.number;
                case "truth":
                    return e.number == 1;
                case "name": {
                    if (e.def == null) {
                        return env.get(e.told);
                    }
                    Fun f = new Fun();
                    f.def = e.def;
                    f.env = new HashMap<>();
                    return f;
                }
                case "fn": {
                    step();
                    Fun f = new Fun();
                    f.e = e;
                    f.env = env;
                    return f;
                }
                case "rec": {
                    step();
                    Fun f = new Fun();
                    f.e = e;
                    f.env = with(env, e.tells.get(0), f);
                    return f;
                }
                case "app": {
                    Fun f = (Fun) eval(e.kids.get(0), env);
                    return apply(f, eval(e.kids.get(1), env));
                }
                case "pair": {
                    Object a = eval(e.kids.get(0), env);
                    Object b = eval(e.kids.get(1), env);
                    step();
                    return new Pair(a, b);
                }
                case "fst":
                    return ((Pair) eval(e.kids.get(0), env)).left();
                case "snd":
                    return ((Pair) eval(e.kids.get(0), env)).right();
                case "let": {
                    Object a = eval(e.kids.get(0), env);
                    step();
                    return eval(e.kids.get(1), with(env, e.tells.get(0), a));
                }
                case "if":
                    return eval(e.kids.get((Boolean) eval(e.kids.get(0), env) ? 1 : 2), env);
                default:
                    return staged(e, env);
            }
        }

        Object apply(Fun f, Object arg) {
            begin();
            if (f.def != null) {
                Fun g = new Fun();
                g.def = f.def;
                g.have = f.have + 1;
                g.env = with(f.env, f.def.params.get(f.have), arg);
                if (g.have < f.def.params.size()) {
                    return g;
                }
                return within(f.def.body, g.env);
            }
            Told x = f.e.tells.get(f.e.kind.equals("fn") ? 0 : 1);
            return within(f.e.kids.get(0), with(f.env, x, arg));
        }

        Object within(Expr body, Map<Told, Object> env) {
            begun++;
            deepest = Math.max(deepest, begun);
            Object v = eval(body, env);
            begun--;
            return v;
        }

        Object staged(Expr e, Map<Told, Object> env) {
            switch (e.kind) {
                case "{}": {
                    if (erased) {
                        return eval(e.kids.get(0), env);
                    }
                    Expr made = build(e.kids.get(0), env, 1);
                    if (made.size() > 200 || made.height() > 60) {
                        throw new End(3);
                    }
                    return new CodeValue(made);
                }
                case "~":
                    return eval(e.kids.get(0), env);
                case "close": {
                    int k = e.tells.size();
                    Map<Told, Object> in = new HashMap<>();
                    for (int i = 0; i < k; i++) {
                        in.put(e.tells.get(i), eval(e.kids.get(i), env));
                    }
                    for (int i = 0; i <= k; i++) {
                        step();
                    }
                    Object v = eval(e.kids.get(k), in);
                    return erased ? v : new BoxValue(v);
                }
                case "open": {
                    Object v = eval(e.kids.get(0), env);
                    return erased ? v : ((BoxValue) v).in();
                }
                case "run": {
                    Object v = eval(e.kids.get(0), env);
                    if (erased) {
                        return v;
                    }
                    Expr c = ((CodeValue) ((BoxValue) v).in()).e();
                    begin();
                    begun++;
                    deepest = Math.max(deepest, begun);
                    if (parts + c.size() > 300) {
                        throw new End(3);
                    }
                    parts += c.size();
                    Object r = eval(c, new HashMap<>());
                    begun--;
                    return new BoxValue(r);
                }
                default:
                    return operate(e.kind, eval(e.kids.get(0), env), eval(e.kids.get(1), env));
            }
        }

        Object operate(String sign, Object a, Object b) {
            if (sign.equals("==")) {
                return a.equals(b);
            }
            int x = (Integer) a;
            int y = (Integer) b;
            switch (sign) {
                case "+":
                    return x + y;
                case "-":
                    return x - y;
                case "*":
                    return x * y;
                case "<":
                    return x < y;
                default:
                    if (y == 0) {
                        throw new End(4);
                    }
                    long r = sign.equals("/") ? (long) x / y : (long) x % y;
                    return (int) r;
            }
        }

        Expr lift(Object v) {
            if (v instanceof Pair) {
                part();
                Pair p = (Pair) v;
                Expr l = lift(p.left());
                return new Expr("pair", 0, 0, l, lift(p.right()));
            }
            if (v instanceof Boolean) {
                part();
                Expr e = new Expr("truth", 0, 0);
                e.number = (Boolean) v ? 1 : 0;
                return e;
            }
            int n = (Integer) v;
            if (n >= 0) {
                part();
                Expr e = new Expr("num", 0, 0);
                e.number = n;
                return e;
            }
            part();
            if (n == Integer.MIN_VALUE) {
                Expr l = lift(n + 1);
                return new Expr("-", 0, 0, l, lift(1));
            }
            Expr l = lift(0);
            return new Expr("-", 0, 0, l, lift(-n));
        }

        Expr build(Expr e, Map<Told, Object> env, int n) {
            if (e.kind.equals("~") && n == 1) {
                return ((CodeValue) eval(e.kids.get(0), env)).e();
            }
            if (e.kind.equals("name") && e.def == null && !(env.get(e.told) instanceof Told)) {
                return lift(env.get(e.told));
            }
            part();
            Expr made = new Expr(e.kind, 0, 0);
            made.number = e.number;
            made.type = e.type;
            made.def = e.def;
            if (e.kind.equals("name") && e.def == null) {
                made.told = (Told) env.get(e.told);
            }
            Map<Told, Object> in = new HashMap<>(env);
            for (Told t : e.tells) {
                Told fresh = new Told(t.name, 0);
                made.tells.add(fresh);
                in.put(t, fresh);
            }
            int level = e.kind.equals("{}") ? n + 1 : e.kind.equals("~") ? n - 1 : n;
            for (int i = 0; i < e.kids.size(); i++) {
                boolean ahead = (e.kind.equals("let") || e.kind.equals("close")) && i < e.kids.size() - 1;
                made.kids.add(build(e.kids.get(i), ahead ? env : in, level));
            }
            return made;
        }
    }

    // ---- what is written

    static final class Show {
        String value(Object v) {
            if (v instanceof Pair) {
                return "(" + value(((Pair) v).left()) + "," + value(((Pair) v).right()) + ")";
            }
            if (v instanceof Fun) {
                return "fn";
            }
            if (v instanceof BoxValue) {
                return "box " + value(((BoxValue) v).in());
            }
            if (v instanceof CodeValue) {
                counter = 0;
                return "{" + expr(((CodeValue) v).e(), new HashMap<>()) + "}";
            }
            return String.valueOf(v);
        }

        int counter = 0;

        String expr(Expr e, Map<Told, String> outer) {
            Map<Told, String> names = new HashMap<>(outer);
            List<String> xs = new ArrayList<>();
            for (Told t : e.tells) {
                String x = "x" + counter++;
                names.put(t, x);
                xs.add(x);
            }
            List<String> k = new ArrayList<>();
            for (Expr kid : e.kids) {
                k.add(expr(kid, names));
            }
            switch (e.kind) {
                case "num":
                    return "" + e.number;
                case "truth":
                    return e.number == 1 ? "true" : "false";
                case "name":
                    return e.def != null ? e.def.name : names.get(e.told);
                case "app":
                    return "(" + k.get(0) + " " + k.get(1) + ")";
                case "pair":
                    return "(" + k.get(0) + "," + k.get(1) + ")";
                case "fn":
                    return "(fn " + xs.get(0) + ":" + e.type.written() + "." + k.get(0) + ")";
                case "rec":
                    return "(rec " + xs.get(0) + "(" + xs.get(1) + ":" + e.type.left().written() + "):"
                        + e.type.right().written() + "." + k.get(0) + ")";
                case "let":
                    return "(let " + xs.get(0) + "=" + k.get(0) + " in " + k.get(1) + ")";
                case "if":
                    return "(if " + k.get(0) + " then " + k.get(1) + " else " + k.get(2) + ")";
                case "close": {
                    StringBuilder b = new StringBuilder("(close ");
                    for (int i = 0; i < xs.size(); i++) {
                        b.append(i > 0 ? "," : "").append(xs.get(i)).append("=").append(k.get(i));
                    }
                    b.append(xs.isEmpty() ? "in " : " in ").append(k.get(xs.size())).append(")");
                    return b.toString();
                }
                case "{}":
                    return "{" + k.get(0) + "}";
                case "~":
                    return "(~" + k.get(0) + ")";
                case "run":
                case "open":
                case "fst":
                case "snd":
                    return "(" + e.kind + " " + k.get(0) + ")";
                default:
                    return "(" + k.get(0) + e.kind + k.get(1) + ")";
            }
        }
    }
}
