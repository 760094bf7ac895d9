import java.util.ArrayList;
import java.util.List;

/** All small questions that some forms make, one after the other: CodePress and Plain must say the same of each. */
public final class SmallTermsTest {

    private static final String PROGRAM = "def f(c:code int,n:int):code int={~c+n};";
    private static final String[] LEAVES = {"1", "x", "f", "true"};
    private static final String[] AROUND_ONE = {"{%}", "~(%)", "(run(%))", "(open(%))", "(fst(%))", "(close in %)",
        "(fn x:int.%)", "(fn x:code int.%)", "(rec x(y:int):int.%)"};
    private static final String[] AROUND_TWO = {"((%)(@))", "((%)+(@))", "(%,@)", "(let x=% in @)", "(close x=% in @)"};

    private static Press press;
    private static Plain plain;
    private static int asked;

    /** What a later question is told must not hang on the earlier ones alone: now and then all begins anew. */
    private static void begin() {
        press = new Press();
        plain = new Plain();
        press.load(PROGRAM);
        plain.load(PROGRAM);
    }

    private static void compare(String text) {
        if (asked % 40 == 0) {
            begin();
        }
        asked++;
        for (int k = 0; k < 2; k++) {
            boolean erased = k == 1;
            int end = plain.ask(text, 12, erased);
            String what = text + (erased ? " erased" : "");
            Press.due(what, press.ask(text, 12, erased), end);
            Press.due("fault of " + what, press.fault(), plain.faultKind == 0 ? "none" : plain.faultKind + " at " + plain.faultAt);
            if (end < 0) {
                return;
            }
            StringBuilder told = new StringBuilder();
            for (int i = 0; i < 8; i++) {
                told.append(i > 0 ? " " : "").append(plain.told[i]);
            }
            Press.due("told of " + what, press.told(), told);
            Press.due("type of " + what, press.type(0, 0), plain.typeText);
            Press.due("value of " + what, press.value(), plain.valueText);
        }
    }

    /** Those with so many forms in them, out of the smaller ones. */
    private static List<String> made(int size, List<List<String>> smaller) {
        List<String> all = new ArrayList<>();
        for (String form : AROUND_ONE) {
            for (String e : smaller.get(size - 1)) {
                all.add(form.replace("%", e));
            }
        }
        for (String form : AROUND_TWO) {
            for (int k = 1; k < size - 1; k++) {
                for (String e : smaller.get(k)) {
                    for (String f : smaller.get(size - 1 - k)) {
                        all.add(form.replace("%", e).replace("@", f));
                    }
                }
            }
        }
        return all;
    }

    private static void compareAll(int largest) {
        List<List<String>> bySize = new ArrayList<>(List.of(List.of(), List.of(LEAVES)));
        for (int size = 2; size <= largest; size++) {
            bySize.add(made(size, bySize));
        }
        for (List<String> texts : bySize) {
            for (String text : texts) {
                compare(text);
            }
        }
    }

    public static void main(String[] args) {
        compareAll(args.length > 0 ? Integer.parseInt(args[0]) : 5);
        Press.finish("SmallTermsTest");
    }
}
