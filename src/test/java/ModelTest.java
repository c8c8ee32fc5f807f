import java.util.Random;

/** Random runs of calls, each answer compared with the slow model's; the seeds are fixed. */
public final class ModelTest {
    private static final int RUNS = 400;
    // An object is used for 512 calls at most; one turn makes up to seven.
    private static final int CALLS = 512 - 7;

    private final Random random;
    private final SwitchBook fast = new SwitchBook();
    private final SlowBook slow = new SlowBook();
    private final int run;
    private int calls;

    private ModelTest(int run) {
        this.run = run;
        this.random = new Random(9000 + run);
    }

    public static void main(String[] args) {
        Watch.start("ModelTest");
        for (int run = 0; run < RUNS; run++) {
            ModelTest test = new ModelTest(run);
            test.go();
            if (test.failed) {
                System.exit(1);
            }
        }
        System.out.println("ModelTest: all " + RUNS + " runs are as the slow model's");
    }

    private boolean failed;

    private void same(String call, int got, int want) {
        calls++;
        if (got != want && !failed) {
            failed = true;
            System.out.println("ModelTest, run " + run + ", call " + calls + ": " + call + " answered " + got + ", the model " + want);
        }
    }

    private void go() {
        tellSome(run % 4 == 3);
        while (calls < CALLS && !failed) {
            if (random.nextInt(90) == 0 && calls + 130 < CALLS) {
                tellSome(random.nextInt(3) > 0);
            } else {
                oneCall();
            }
        }
    }

    private void tellSome(boolean spoilt) {
        String text = someText();
        if (spoilt) {
            text = spoil(text);
        }
        for (int i = 0; i < text.length(); i++) {
            same("type", fast.type(text.charAt(i)), slow.type(text.charAt(i)));
        }
        int want = slow.book();
        same("book of '" + text + "'", fast.book(), want);
        if (want < 0 && random.nextBoolean()) {
            same("clear", fast.clear(), slow.clear());
        }
    }

    private String someText() {
        StringBuilder t = new StringBuilder();
        int nodes = 3;
        if (random.nextInt(8) > 0) {
            nodes = 2 + random.nextInt(5);
            t.append("n").append(nodes).append(";");
        }
        int sources = random.nextInt(10) == 0 ? 0 : 1 + random.nextInt(2);
        for (int i = 0; i < sources; i++) t.append("s").append(i * (nodes - 1)).append(random.nextInt(5) == 0 ? " ;" : ";");
        for (int u = 0; u < nodes; u++) {
            if (random.nextInt(3) == 0) t.append("d").append(u).append(";");
        }
        int switches = random.nextInt(12) == 0 ? random.nextInt(8) : 5 + random.nextInt(4);
        int shift = random.nextInt(26);
        int step = 1 + 2 * random.nextInt(6);
        StringBuilder names = new StringBuilder();
        for (int i = 0; i < switches; i++) {
            char name = (char) ('a' + (shift + i * step) % 26);
            names.append(name);
            int u = random.nextInt(nodes);
            int v = (u + 1 + random.nextInt(nodes - 1)) % nodes;
            int kind = random.nextInt(8);
            if (kind < 3) t.append("b").append(name).append(u).append(" ").append(v);
            else if (kind < 6) t.append("i").append(name).append(u).append(" ").append(v);
            else t.append("e").append(name).append(u);
            t.append(";");
        }
        for (int i = 0; i < switches; i++) {
            if (random.nextInt(3) == 0) t.append("c").append(names.charAt(i)).append(";");
            if (random.nextInt(9) == 0) t.append("k").append(names.charAt(i)).append(";");
        }
        return t.toString();
    }

    private String spoil(String text) {
        StringBuilder t = new StringBuilder(text);
        String some = "nsdbieckaz;; 0123456789A-\t";
        for (int i = random.nextInt(3); i >= 0 && t.length() > 1; i--) {
            int place = random.nextInt(t.length());
            char c = some.charAt(random.nextInt(some.length()));
            switch (random.nextInt(5)) {
                case 0 -> t.insert(place, c);
                case 1 -> t.setCharAt(place, c);
                case 2 -> t.deleteCharAt(place);
                case 3 -> t.setLength(place);
                default -> t.append("c").append((char) ('a' + random.nextInt(26))).append(';');
            }
        }
        return t.toString();
    }

    private int about(int upTo) {
        return random.nextInt(15) == 0 ? random.nextInt(5) * 3 - 2 + (random.nextBoolean() ? upTo : -1) : random.nextInt(Math.max(1, upTo));
    }

    private void oneCall() {
        int k = about(slow.count(1));
        int u = about(slow.count(0));
        switch (random.nextInt(32)) {
            case 0 -> { int c = random.nextInt(40) == 0 ? -1 : 32; same("type " + c, fast.type(c), slow.type(c)); }
            case 1 -> { if (random.nextInt(9) == 0) same("clear", fast.clear(), slow.clear()); }
            case 2, 3 -> { int w = about(7); same("device " + k + " " + w, fast.device(k, w), slow.device(k, w)); }
            case 4 -> { int c = 95 + random.nextInt(30); same("named " + c, fast.named(c), slow.named(c)); }
            case 5, 6 -> { int w = about(5); same("node " + u + " " + w, fast.node(u, w), slow.node(u, w)); }
            case 7, 8 -> { int w = about(9); same("now " + w, fast.now(w), slow.now(w)); }
            case 9, 10, 11, 12, 13 -> same("moves " + k, fast.moves(k), slow.moves(k));
            case 14 -> same("locks " + k, fast.locks(k), slow.locks(k));
            case 15 -> somePrices();
            case 16, 17, 18 -> same("lists " + k, fast.lists(k), slow.lists(k));
            case 19 -> same("goes", fast.goes(), slow.goes());
            case 20 -> { if (random.nextInt(4) == 0) same("drops", fast.drops(), slow.drops()); }
            case 21 -> { if (random.nextInt(3) == 0) same("undo", fast.undo(), slow.undo()); }
            case 22 -> somePlan();
            case 23 -> { int i = random.nextInt(9) - 2; same("work " + u + " " + i, fast.work(u, i), slow.work(u, i)); }
            case 24 -> { int i = random.nextInt(9) - 2; same("supply " + i, fast.supply(i), slow.supply(i)); }
            case 25 -> { int w = random.nextInt(2); int x = about(11); same("odds " + x + " " + w, fast.odds(x, w), slow.odds(x, w)); }
            case 26 -> { int l = about(2); same("sees " + u + " " + l, fast.sees(u, l), slow.sees(u, l)); }
            case 27 -> { if (random.nextInt(4) == 0) same("forget", fast.forget(), slow.forget()); }
            case 28 -> { same("unseen", fast.unseen(), slow.unseen()); same("look", fast.look(), slow.look()); }
            case 29 -> { int i = about(2); same("keep " + i, fast.keep(i), slow.keep(i)); }
            case 30 -> { int i = about(2); if (random.nextInt(3) == 0) same("back " + i, fast.back(i), slow.back(i)); }
            default -> { int w = about(8); same("count " + w, fast.count(w), slow.count(w)); }
        }
    }

    private void somePrices() {
        int a = random.nextInt(10) + 1 - random.nextInt(2);
        int b = random.nextInt(9) + 1;
        int c = random.nextInt(9) + 1;
        same("prices", fast.prices(a, b, c), slow.prices(a, b, c));
    }

    private void somePlan() {
        int set = random.nextInt(1 << slow.count(1)) & random.nextInt(256);
        int closed = set & random.nextInt(256);
        if (random.nextInt(12) == 0) closed = random.nextInt(256);
        if (random.nextInt(20) == 0) set |= 1 << 8 + random.nextInt(24);
        for (int i = random.nextBoolean() ? -1 : -2; i < 5; i++) {
            same("plan " + set + " " + closed + " " + i, fast.plan(set, closed, i), slow.plan(set, closed, i));
        }
    }
}
