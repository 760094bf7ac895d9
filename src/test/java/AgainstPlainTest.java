/** Many made texts, of which CodePress and Plain must say the same. */
public final class AgainstPlainTest {

    static final int[] seenEnds = new int[5];
    static final int[] seenFaults = new int[8];
    static final int[] seenValues = new int[6];

    static void same(Press p, Plain q, String what) {
        Press.due("fault of " + what, p.fault(), q.faultKind == 0 ? "none" : q.faultKind + " at " + q.faultAt);
        StringBuilder b = new StringBuilder();
        for (int i = 0; i < 8; i++) {
            b.append(i > 0 ? " " : "").append(q.told[i]);
        }
        Press.due("told of " + what, p.told(), b);
        Press.due("type of " + what, p.type(0, 0), q.typeText);
        Press.due("value of " + what, p.value(), q.valueText);
        Press.due("DEFS of " + what, p.press.count(0), q.defs.size());
        Press.due("values of " + what, p.press.count(3), q.gave);
        Press.due("TAPE of " + what, p.press.count(1), 0);
        seenFaults[q.faultKind]++;
    }

    static void load(Press p, Plain q, String text) {
        Press.due("load of " + text, p.load(text), q.load(text));
        same(p, q, text);
        for (int k = 0; k < q.defs.size(); k++) {
            Press.due("type of DEF " + k + " of " + text, p.type(1, k), q.defs.get(k).type.written());
        }
    }

    static void ask(Press p, Plain q, String text, int steps, boolean erased) {
        int end = q.ask(text, steps, erased);
        Press.due("ask " + steps + " " + erased + " of " + text, p.ask(text, steps, erased), end);
        same(p, q, text + " (" + steps + ", " + erased + ", " + q.defs.size() + " DEFS)");
        if (end >= 0) {
            seenEnds[end]++;
        }
        if (end == 0) {
            seenValues[q.told[4]]++;
        }
    }

    static void session(long seed) {
        Maker m = new Maker(seed);
        m.wild = seed % 3 == 0 ? 1 + m.pick(60) : 0;
        Press p = new Press();
        Plain q = new Plain();
        String program = m.program(10 + m.pick(30));
        if (program.length() <= 3000) {
            load(p, q, program);
            if (m.chance(30)) {
                String bad = m.spoil(program);
                load(p, q, bad.length() <= 3000 ? bad : "");
            }
        }
        for (int i = 0; i < 3; i++) {
            String text = m.chance(4) ? m.growingRun() : m.chance(2) ? m.longQuestion() : m.question(5 + m.pick(80));
            if (text.length() > 2980) {
                continue;
            }
            int steps = m.chance(70) ? 500 : m.pick(30);
            ask(p, q, text, steps, false);
            if (m.chance(40)) {
                ask(p, q, text, steps, true);
            }
            if (m.chance(50)) {
                ask(p, q, m.spoil(text), steps, m.chance(10));
            }
        }
    }

    public static void main(String[] args) throws InterruptedException {
        long from = args.length > 0 ? Long.parseLong(args[0]) : 1;
        long to = args.length > 1 ? Long.parseLong(args[1]) : 3000;
        // Plain needs a deep stack, CodePress none
        Thread t = new Thread(null, () -> {
            for (long seed = from; seed <= to; seed++) {
                session(seed);
            }
        }, "plain", 1L << 29);
        t.setUncaughtExceptionHandler((thread, thrown) -> {
            Press.due("thrown at " + thrown.getStackTrace()[0], thrown, "nothing");
        });
        t.start();
        t.join();
        System.out.println("ends " + java.util.Arrays.toString(seenEnds) + ", faults "
            + java.util.Arrays.toString(seenFaults) + ", values " + java.util.Arrays.toString(seenValues));
        Press.finish("AgainstPlainTest");
    }
}
