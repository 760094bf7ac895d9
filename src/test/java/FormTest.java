import java.util.ArrayList;
import java.util.HashSet;
import java.util.LinkedHashSet;
import java.util.List;
import java.util.Set;

/**
 * "1 FORM: a TOKEN with which no text goes on": the grammar of the document as it stands there, and a
 * reader that knows after each TOKEN whether any text goes on with it (Earley's way). Sound texts with
 * each TOKEN left out, doubled or put for another one must be told at the same place by CodePress.
 */
public final class FormTest extends Checks {

    static final String[] GRAMMAR = {
        "PROGRAM > DEF", "PROGRAM > PROGRAM DEF",
        "DEF > def NAME ( PARAMS ) : TYPE = E ;",
        "PARAMS > NAME : TYPE", "PARAMS > PARAMS , NAME : TYPE",
        "TYPE > SORT", "TYPE > SORT -> TYPE",
        "SORT > int", "SORT > bool", "SORT > code SORT", "SORT > box SORT", "SORT > ( TYPE )", "SORT > ( TYPE , TYPE )",
        "E > fn NAME : TYPE . E", "E > rec NAME ( NAME : TYPE ) : TYPE . E", "E > let NAME = E in E",
        "E > if E then E else E", "E > close in E", "E > close KEPT in E", "E > C",
        "KEPT > NAME = E", "KEPT > KEPT , NAME = E",
        "C > S", "C > S == S", "C > S < S",
        "S > P", "S > S + P", "S > S - P",
        "P > A", "P > P * A", "P > P / A", "P > P % A",
        "A > U", "A > A U",
        "U > NUMBER", "U > true", "U > false", "U > NAME", "U > ( E )", "U > ( E , E )", "U > { E }",
        "U > ~ U", "U > run U", "U > open U", "U > fst U", "U > snd U",
    };

    static final String[] TOKENS = ("( ) { } , ; : . = == < + - * / % ~ -> def fn rec let in if then else close run open fst snd "
        + "true false int bool code box x 7 !").split(" ");

    record Rule(String head, String[] body) { }

    /** A rule of which the first parts have been read since the place where it began. */
    record Item(int rule, int dot, int from) { }

    static final Rule[] RULES = new Rule[GRAMMAR.length];
    static final Set<String> HEADS = new HashSet<>();

    static void readGrammar() {
        for (int i = 0; i < GRAMMAR.length; i++) {
            String[] sides = GRAMMAR[i].split(" > ", 2);
            RULES[i] = new Rule(sides[0], sides[1].split(" "));
            HEADS.add(sides[0]);
        }
    }

    static String kindOf(String token) {
        if (token.equals("x") || token.equals("f") || token.equals("k") || token.equals("y")) {
            return "NAME";
        }
        return token.equals("7") || token.equals("1") ? "NUMBER" : token;
    }

    static String next(Item i) {
        String[] body = RULES[i.rule()].body();
        return i.dot() < body.length ? body[i.dot()] : null;
    }

    /** All that follows from the items at this place without one more TOKEN. */
    static void complete(List<Set<Item>> all, int at) {
        List<Item> todo = new ArrayList<>(all.get(at));
        for (int k = 0; k < todo.size(); k++) {
            Item i = todo.get(k);
            String wanted = next(i);
            List<Item> more = new ArrayList<>();
            if (wanted == null) {
                for (Item back : all.get(i.from())) {
                    if (RULES[i.rule()].head().equals(next(back))) {
                        more.add(new Item(back.rule(), back.dot() + 1, back.from()));
                    }
                }
            } else if (HEADS.contains(wanted)) {
                for (int r = 0; r < RULES.length; r++) {
                    if (RULES[r].head().equals(wanted)) {
                        more.add(new Item(r, 0, at));
                    }
                }
            }
            for (Item m : more) {
                if (all.get(at).add(m)) {
                    todo.add(m);
                }
            }
        }
    }

    /** The TOKEN with which no text goes on; as many as there are, if the end is that; -1 if the text is whole. */
    static int wrongToken(String start, List<String> tokens) {
        if (tokens.isEmpty()) {
            return start.equals("PROGRAM") ? -1 : 0;
        }
        List<Set<Item>> all = new ArrayList<>();
        all.add(new LinkedHashSet<>());
        for (int r = 0; r < RULES.length; r++) {
            if (RULES[r].head().equals(start)) {
                all.get(0).add(new Item(r, 0, 0));
            }
        }
        complete(all, 0);
        for (int at = 0; at < tokens.size(); at++) {
            Set<Item> then = new LinkedHashSet<>();
            for (Item i : all.get(at)) {
                if (kindOf(tokens.get(at)).equals(next(i))) {
                    then.add(new Item(i.rule(), i.dot() + 1, i.from()));
                }
            }
            if (then.isEmpty()) {
                return at;
            }
            all.add(then);
            complete(all, at + 1);
        }
        for (Item i : all.get(tokens.size())) {
            if (i.from() == 0 && next(i) == null && RULES[i.rule()].head().equals(start)) {
                return -1;
            }
        }
        return tokens.size();
    }

    static final Set<String> seen = new HashSet<>();

    static void same(String start, List<String> tokens) {
        StringBuilder b = new StringBuilder();
        List<Integer> places = new ArrayList<>();
        for (String t : tokens) {
            places.add(b.length());
            b.append(t).append(' ');
        }
        String text = b.toString();
        if (!seen.add(start + text)) {
            return;
        }
        places.add(text.length());
        int wrong = wrongToken(start, tokens);
        Press p = new Press();
        int got = start.equals("PROGRAM") ? p.load(text) : p.ask(text, 9, false);
        if (wrong >= 0) {
            Press.due(text, got, -1);
            Press.due("FORM of " + text, p.fault(), "1 at " + places.get(wrong));
        } else {
            Press.due("no FORM in " + text, p.press.fault(0) == 1 || p.press.fault(0) == 6, false);
        }
    }

    static void spoil(String start, String text) {
        List<String> tokens = List.of(text.split(" "));
        Press.due("a sound one: " + text, wrongToken(start, tokens), -1);
        same(start, tokens);
        for (int at = 0; at <= tokens.size(); at++) {
            same(start, tokens.subList(0, at));
            for (String t : TOKENS) {
                List<String> more = new ArrayList<>(tokens);
                more.add(at, t);
                same(start, more);
                if (at < tokens.size()) {
                    more.remove(at + 1);
                    same(start, more);
                }
            }
            if (at < tokens.size()) {
                List<String> less = new ArrayList<>(tokens);
                less.remove(at);
                same(start, less);
            }
        }
    }

    public static void main(String[] args) {
        readGrammar();
        String[] questions = {
            "fn x : int . x", "fn x : code box ( int -> bool , int ) -> ( bool ) . x 7",
            "rec f ( x : int ) : int -> int . f x", "rec f ( x : ( int ) ) : code int . x",
            "let x = let y = 1 in y in fn y : int . x", "if if x then y else x then 1 else if x then y else x",
            "close in 1", "close k = x in k", "close k = close in 1 , x = close y = k in y in open k",
            "1 + x * 7 - y / 1 % x == x - 1 * 7", "x < 1 + 7", "x y ( 1 ) { x } ~ y run x open y fst x snd y true false 7",
            "( x , y )", "( ( x ) , { ( y ) } )", "{ { ~ ~ x } }", "run open fst snd ~ x", "( fn x : int . x , let y = 1 in y )",
            "{ if x then 1 else 7 }", "( close k = x in k ) == { 1 } x",
        };
        for (String q : questions) {
            spoil("E", q);
        }
        String[] programs = {
            "def f ( x : int ) : int = x ;", "def f ( x : int , y : code int -> bool ) : box ( int , bool ) = if x then y else 1 ;",
            "def f ( x : int , y : int , k : int , x : int ) : int = x ; def x ( y : bool ) : int = ( 1 , x ) ;",
        };
        for (String p : programs) {
            spoil("PROGRAM", p);
        }
        Press.finish("FormTest");
    }
}
