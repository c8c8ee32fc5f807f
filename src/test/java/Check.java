/** Compares answers with those that are due, and ends a test. */
final class Check {
    private final String test;
    private int calls;
    private int wrong;

    Check(String test) {
        this.test = test;
    }

    void due(String call, long got, long want) {
        calls++;
        if (got != want) {
            wrong++;
            System.out.println(test + ": " + call + " answered " + got + ", due is " + want);
        }
    }

    /** Types a text and reads it: what book() answers. */
    static int tell(SwitchBook x, String text) {
        for (int i = 0; i < text.length(); i++) {
            x.type(text.charAt(i));
        }
        return x.book();
    }

    static SwitchBook told(String text) {
        SwitchBook x = new SwitchBook();
        int answer = tell(x, text);
        if (answer < 0) {
            System.out.println("a test's own text is refused: " + text + ": " + answer);
            System.exit(1);
        }
        return x;
    }

    /** The switches of a row of moves behind one another, as digits. */
    interface Row {
        int at(int k);
    }

    void dueRow(String call, Row row, int cost, String switches) {
        due(call + " cost", row.at(-1), cost);
        StringBuilder got = new StringBuilder();
        for (int k = 0; k < 300 && row.at(k) != SwitchBook.NONE; k++) {
            got.append(row.at(k));
        }
        calls++;
        if (!got.toString().equals(switches)) {
            wrong++;
            System.out.println(test + ": " + call + " goes by " + got + ", due is " + switches);
        }
    }

    void end() {
        System.out.println(test + ": " + (wrong == 0 ? "all " + calls + " answers are as due" : wrong + " answers are not as due"));
        if (wrong != 0) {
            System.exit(1);
        }
    }
}
