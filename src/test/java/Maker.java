import java.util.ArrayList;
import java.util.List;

/** Makes texts, always the same ones for a seed: mostly well typed, with all the stages. */
final class Maker {
    private long state;

    Maker(long seed) {
        state = seed * 0x9E3779B97F4A7C15L + 12345;
        for (int i = 0; i < 5; i++) {
            next();
        }
    }

    private int next() {
        state = state * 6364136223846793005L + 1442695040888963407L;
        return (int) (state >>> 33);
    }

    int pick(int n) {
        return n <= 0 ? 0 : Math.floorMod(next(), n);
    }

    boolean chance(int percent) {
        return pick(100) < percent;
    }

    // ---- types as trees, written as the document writes them

    static final class T {
        final String kind;
        final T left;
        final T right;

        T(String kind, T left, T right) {
            this.kind = kind;
            this.left = left;
            this.right = right;
        }

        int size() {
            return 1 + (left == null ? 0 : left.size()) + (right == null ? 0 : right.size());
        }

        boolean plain() {
            return kind.equals("int") || kind.equals("bool") || kind.equals(",") && left.plain() && right.plain();
        }

        public String toString() {
            switch (kind) {
                case "int":
                case "bool":
                    return kind;
                case ",":
                    return "(" + left + "," + right + ")";
                case "->":
                    return sort(left) + "->" + right;
                default:
                    return kind + " " + sort(left);
            }
        }

        static String sort(T t) {
            return t.kind.equals("->") ? "(" + t + ")" : t.toString();
        }
    }

    static final T INT = new T("int", null, null);
    static final T BOOL = new T("bool", null, null);

    T type(int fuel) {
        if (fuel <= 1 || chance(40)) {
            return chance(75) ? INT : BOOL;
        }
        switch (pick(5)) {
            case 0:
                return new T(",", type(fuel / 2), type(fuel / 2));
            case 1:
                return new T("->", type(fuel / 2), type(fuel / 2));
            case 2:
                return new T("box", type(fuel - 1), null);
            default:
                return new T("code", type(fuel - 1), null);
        }
    }

    /** Around 40 PARTS. */
    T wideType() {
        T t = INT;
        for (int n = 30 + pick(12); t.size() < n;) {
            T u = type(6);
            t = chance(50) ? new T(",", t, u) : chance(50) ? new T("->", u, t) : new T("code", t, null);
        }
        return t;
    }

    static final class Var {
        final String name;
        final T type;
        final int level;

        Var(String name, T type, int level) {
            this.name = name;
            this.type = type;
            this.level = level;
        }
    }

    static final class DefT {
        String name;
        List<T> params = new ArrayList<>();
        T gives;

        T type() {
            T t = gives;
            for (int i = params.size() - 1; i >= 0; i--) {
                t = new T("->", params.get(i), t);
            }
            return t;
        }
    }

    final List<DefT> defs = new ArrayList<>();
    // of a thousand choices, how many are made against the rules
    int wild = 0;

    private boolean isWild() {
        return wild > 0 && pick(1000) < wild;
    }

    private int counter = 0;

    private String name() {
        if (chance(30)) {
            return "" + (char) ('a' + pick(4));
        }
        return "v" + (counter++ % 50);
    }

    private static List<Var> with(List<Var> scope, Var... more) {
        List<Var> all = new ArrayList<>();
        for (Var v : scope) {
            boolean hidden = false;
            for (Var m : more) {
                hidden |= m.name.equals(v.name);
            }
            if (!hidden) {
                all.add(v);
            }
        }
        for (Var m : more) {
            all.add(m);
        }
        return all;
    }

    private boolean defHidden(String name, List<Var> scope) {
        for (Var v : scope) {
            if (v.name.equals(name)) {
                return true;
            }
        }
        return false;
    }

    String number() {
        switch (pick(12)) {
            case 0:
                return "2147483647";
            case 1:
                return "0" + pick(10);
            case 2:
                return "" + (pick(2147483) * 1000L);
            default:
                return "" + pick(5);
        }
    }

    private String gap() {
        return chance(5) ? "\n" : chance(10) ? " " : "";
    }

    /** An E that may stand anywhere where a U may. */
    String unit(T t, int level, List<Var> scope, int fuel) {
        String e = expr(t, level, scope, fuel);
        return isUnit(e) ? e : "(" + e + ")";
    }

    private static boolean isUnit(String e) {
        if (e.matches("[0-9]+") || e.matches("[a-z][a-z0-9]*")) {
            return true;
        }
        char c = e.charAt(0);
        if (c != '(' && c != '{') {
            return false;
        }
        int deep = 0;
        for (int i = 0; i < e.length(); i++) {
            char d = e.charAt(i);
            deep += d == '(' || d == '{' ? 1 : d == ')' || d == '}' ? -1 : 0;
            if (deep == 0 && i < e.length() - 1) {
                return false;
            }
        }
        return true;
    }

    String expr(T t, int level, List<Var> scope, int fuel) {
        if (isWild()) {
            switch (pick(6)) {
                case 0:
                    return expr(type(4), level, scope, fuel / 2);
                case 1:
                    return scope.isEmpty() ? "nobody" : scope.get(pick(scope.size())).name;
                case 2:
                    return "{" + expr(t, level, scope, fuel / 2) + "}";
                case 3:
                    return "~" + unit(t, level, scope, fuel / 2);
                case 4:
                    return "fst (" + expr(t, level, scope, fuel / 2) + ",fn w:" + wideType() + ".1)";
                default:
                    return "snd (close in rec w(w1:" + wideType() + "):int.1," + expr(t, level, scope, fuel / 2) + ")";
            }
        }
        if (fuel <= 0 || chance(15)) {
            String v = known(t, level, scope);
            if (v != null && chance(80)) {
                return v;
            }
        }
        if (fuel > 0 && chance(45)) {
            return anyKind(t, level, scope, fuel);
        }
        return ownKind(t, level, scope, fuel);
    }

    private String known(T t, int level, List<Var> scope) {
        List<String> fits = new ArrayList<>();
        for (Var v : scope) {
            boolean at = v.level == level || v.level < level && v.type.plain();
            if (at && v.type.toString().equals(t.toString())) {
                fits.add(v.name);
            }
        }
        for (DefT d : defs) {
            if (!defHidden(d.name, scope) && d.type().toString().equals(t.toString())) {
                fits.add(d.name);
            }
        }
        return fits.isEmpty() ? null : fits.get(pick(fits.size()));
    }

    private String ownKind(T t, int level, List<Var> scope, int fuel) {
        switch (t.kind) {
            case "int":
                if (fuel <= 0 || chance(30)) {
                    return number();
                }
                return sum(level, scope, fuel, 2 + pick(chance(20) ? 5 : 1));
            case "bool":
                if (fuel <= 0 || chance(20)) {
                    return chance(50) ? "true" : "false";
                }
                if (chance(50)) {
                    return sum(level, scope, fuel / 2, 1 + pick(3)) + "<" + sum(level, scope, fuel / 2, 1 + pick(3));
                }
                if (chance(50)) {
                    return sum(level, scope, fuel / 2, 1 + pick(2)) + "==" + sum(level, scope, fuel / 2, 1 + pick(4));
                }
                return unit(BOOL, level, scope, fuel / 2) + "==" + unit(BOOL, level, scope, fuel / 2);
            case ",":
                return "(" + expr(t.left, level, scope, fuel / 2) + "," + gap()
                    + expr(t.right, level, scope, fuel / 2) + ")";
            case "->":
                return function(t, level, scope, fuel);
            case "code":
                if (level == 2) {
                    return endless(t);
                }
                return "{" + expr(t.left, level + 1, scope, fuel - 1) + "}";
            default:
                return close(t, level, scope, fuel);
        }
    }

    /** So many ints in a row, with signs of both ranks between them and no brackets around. */
    private String sum(int level, List<Var> scope, int fuel, int n) {
        StringBuilder b = new StringBuilder(unit(INT, level, scope, fuel / n));
        for (int i = 1; i < n; i++) {
            b.append(gap()).append("+-*-+/%*".charAt(pick(8))).append(gap()).append(unit(INT, level, scope, fuel / n));
        }
        return b.toString();
    }

    private static String endless(T t) {
        return "(rec z(z1:int):" + t + ".z z1) 0";
    }

    private String function(T t, int level, List<Var> scope, int fuel) {
        String x = name();
        if (chance(70)) {
            return "fn " + x + ":" + t.left + "." + expr(t.right, level, with(scope, new Var(x, t.left, level)), fuel - 1);
        }
        String f = name() + "r";
        if (t.left.kind.equals("int") && chance(70)) {
            Var vf = new Var(f, t, level);
            Var vx = new Var(x, t.left, level);
            String again = "(" + f + " (" + x + "-1))";
            String rest = expr(t.right, level, with(scope, vf, vx), fuel / 2);
            String more = t.right.kind.equals("int") ? again + "+" + unit(INT, level, with(scope, vf, vx), fuel / 3)
                : t.right.kind.equals("code") && level < 2 && t.right.left.kind.equals("int")
                ? "{~" + again + "*" + unit(INT, level + 1, with(scope, vf, vx), fuel / 3) + "}" : again;
            return "rec " + f + "(" + x + ":int):" + t.right + ".if " + x + "<1 then " + rest + " else " + more;
        }
        List<Var> in = with(scope, new Var(f, t, level), new Var(x, t.left, level));
        return "rec " + f + "(" + x + ":" + t.left + "):" + t.right + "." + expr(t.right, level, in, fuel - 1);
    }

    private String close(T t, int level, List<Var> scope, int fuel) {
        int k = fuel <= 0 ? 0 : pick(4);
        StringBuilder b = new StringBuilder("close");
        List<Var> in = new ArrayList<>();
        for (int i = 0; i < k; i++) {
            T inner = new T("box", chance(40) ? t.left : type(3), null);
            String x = isWild() ? "k0" : "k" + i;
            b.append(i == 0 ? " " : ",").append(x).append("=").append(expr(inner, level, scope, fuel / (k + 1)));
            in.add(new Var(x, inner, level));
        }
        return b + " in " + expr(t.left, level, in, fuel - 1);
    }

    private String anyKind(T t, int level, List<Var> scope, int fuel) {
        switch (pick(11)) {
            case 0: {
                T a = type(4);
                String x = name();
                return "let " + x + "=" + expr(a, level, scope, fuel / 2) + " in "
                    + expr(t, level, with(scope, new Var(x, a, level)), fuel / 2);
            }
            case 1:
                return "if " + expr(BOOL, level, scope, fuel / 3) + " then " + expr(t, level, scope, fuel / 3)
                    + " else " + expr(t, level, scope, fuel / 3);
            case 2: {
                T a = type(3);
                return unit(new T("->", a, t), level, scope, fuel / 2) + " " + unit(a, level, scope, fuel / 2);
            }
            case 3:
                return "fst " + unit(new T(",", t, type(2)), level, scope, fuel - 1);
            case 4:
                return "snd " + unit(new T(",", type(2), t), level, scope, fuel - 1);
            case 5:
                return "open " + unit(new T("box", t, null), level, scope, fuel - 1);
            case 6:
                return call(t, level, scope, fuel);
            case 7:
                return "open (run " + unit(new T("box", new T("code", t, null), null), level, scope, fuel - 1) + ")";
            default:
                if (level == 0) {
                    if (t.kind.equals("box") && chance(60)) {
                        T c = new T("box", new T("code", t.left, null), null);
                        return "run " + unit(c, level, scope, fuel - 1);
                    }
                    return ownKind(t, level, scope, fuel);
                }
                return "~" + unit(new T("code", t, null), level - 1, scope, fuel - 1);
        }
    }

    private String call(T t, int level, List<Var> scope, int fuel) {
        List<DefT> fits = new ArrayList<>();
        for (DefT d : defs) {
            if (d.gives.toString().equals(t.toString()) && !defHidden(d.name, scope)) {
                fits.add(d);
            }
        }
        if (fits.isEmpty()) {
            return ownKind(t, level, scope, fuel);
        }
        DefT d = fits.get(pick(fits.size()));
        StringBuilder b = new StringBuilder(d.name);
        for (T p : d.params) {
            b.append(" ").append(unit(p, level, scope, fuel / (d.params.size() + 1)));
        }
        return b.toString();
    }

    String program(int fuel) {
        defs.clear();
        StringBuilder b = new StringBuilder();
        int n = pick(4);
        for (int i = 0; i < n; i++) {
            DefT d = new DefT();
            d.name = isWild() ? "d0" : "d" + i;
            List<Var> in = new ArrayList<>();
            int params = 1 + pick(3);
            b.append("def ").append(d.name).append("(");
            for (int p = 0; p < params; p++) {
                T t = p == 0 ? INT : isWild() ? wideType() : type(4);
                d.params.add(t);
                String x = isWild() ? "p0" : "p" + p;
                in.add(new Var(x, t, 0));
                b.append(p > 0 ? "," : "").append(x).append(":").append(t);
            }
            d.gives = chance(50) ? INT : chance(50) ? new T("code", INT, null) : type(5);
            defs.add(d);
            b.append("):").append(d.gives).append("=if p0<1 then ");
            b.append(expr(d.gives, 0, in, fuel)).append(" else ");
            if (chance(60)) {
                StringBuilder again = new StringBuilder("(").append(d.name).append(" (p0-1)");
                for (int p = 1; p < params; p++) {
                    again.append(" p").append(p);
                }
                again.append(")");
                String g = d.gives.toString();
                b.append(g.equals("int") ? again + "+p0" : g.equals("code int") ? "{~" + again + "+p0}" : again);
            } else {
                b.append(expr(d.gives, 0, in, fuel));
            }
            b.append(";");
        }
        return b.toString();
    }

    String question(int fuel) {
        if (chance(8)) {
            return growing();
        }
        return expr(chance(5) ? type(30) : type(6), 0, new ArrayList<>(), fuel);
    }

    /** CODES that grow fast, wide or high, and may be run. */
    private String growing() {
        StringBuilder b = new StringBuilder("let c={" + number() + "} in ");
        for (int n = pick(11); n > 0; n--) {
            String[] ways = {"{~c+~c}", "{fst (~c,~c)}", "{let y=~c in y*y}", "{(fn y:int.~c-y) ~c}", "{~c+1+2+3+4}",
                "{close a=close in ~c,b=close in ~c in open a+open b}", "{if 1<~c then ~c else ~c}", "{~c}",
                "{(rec f(x:int):int.if x<1 then ~c else f (x-1)) 2}", "{open (run (close in {1}))+~c}"};
            b.append("let c=").append(ways[pick(ways.length)]).append(" in ");
        }
        b.append(chance(30) ? "(c,({~c},{1-~c}))" : chance(50) ? "c" : "{~c-~c}");
        return b.toString();
    }

    /** A code that grows and is run inside of one closed E, so that names are in reach. */
    String growingRun() {
        String g = growing();
        int cut = g.lastIndexOf(" in ");
        return "let r=run (close in " + g.substring(0, cut) + " in c) in " + (chance(50) ? "open r" : "(r,r)");
    }

    /** Some 800 TOKENS, or a few more. */
    String longQuestion() {
        StringBuilder b = new StringBuilder();
        int n = 795 + pick(10);
        int tokens = 1;
        b.append(chance(50) ? "1" : "x");
        boolean code = chance(20);
        while (tokens < n) {
            if (chance(5) && tokens + 4 < n) {
                b.append("+(2*3)");
                tokens += 6;
            } else if (chance(50)) {
                b.append("+1");
                tokens += 2;
            } else if (chance(1)) {
                b.append(" 2");
                tokens++;
            } else {
                b.append("-3");
                tokens += 2;
            }
        }
        return code ? "{" + b + "}" : b.toString();
    }

    private static final String[] BITS = {"(", ")", "{", "}", ",", ";", ":", ".", "=", "==", "<", "+", "-", "*", "/",
        "%", "~", "->", "def ", "fn ", "rec ", "let ", " in ", "if ", " then ", " else ", "close ", "run ", "open ",
        "fst ", "snd ", "true ", "false ", "int ", "bool ", "code ", "box ", "x", "a ", "7", "99999999999", "2147483648",
        "abcdefghi ", "\t", "A", "!", "\u00e9", "{1}", "(1,2)", "~x", "fn x:int.", "let a=1 in "};

    /** The text with one or two places changed. */
    String spoil(String text) {
        StringBuilder b = new StringBuilder(text);
        for (int n = 1 + pick(2); n > 0; n--) {
            int at = pick(b.length() + 1);
            switch (pick(4)) {
                case 0:
                    b.delete(at, Math.min(b.length(), at + 1 + pick(3)));
                    break;
                case 1:
                    b.setLength(at);
                    break;
                case 2:
                    b.replace(at, Math.min(b.length(), at + 1), BITS[pick(BITS.length)]);
                    break;
                default:
                    b.insert(at, BITS[pick(BITS.length)]);
            }
        }
        return b.toString();
    }
}
