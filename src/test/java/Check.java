import java.util.Arrays;
import java.util.stream.IntStream;
import java.util.stream.LongStream;

/** Compares answers with those that are due, and ends a test. */
final class Check {
    private final String test;
    private String sentence = "";
    private int calls;
    private int wrong;

    Check(String test) {
        this.test = test;
        Watch.start(test);
    }

    /** The sentence of the document that the next answers are due by; one that it does not have is a failure. */
    void says(String quote) {
        sentence = quote;
        if (!Doc.has(quote)) {
            complain("the document does not say that");
        }
    }

    void due(String call, long got, long want) {
        calls++;
        if (got != want) {
            complain(call + " answered " + got + ", due is " + want);
        }
    }

    void due(String what, String got, String want) {
        calls++;
        if (!got.equals(want)) {
            complain(what + ":\n  " + got + "\n  due is\n  " + want);
        }
    }

    private void complain(String why) {
        wrong++;
        System.out.println(test + ": " + (sentence.isEmpty() ? "" : "[" + sentence + "] ") + why);
    }

    /** Types a text and reads it: what book() answers. */
    static int tell(SwitchBook x, String text) {
        for (int i = 0; i < text.length(); i++) {
            x.type(text.charAt(i));
        }
        return x.book();
    }

    /** Calls until a count is as great as it may be, or should be long since. */
    static void fill(SwitchBook x, int what, int most, Runnable call) {
        for (int i = 0; i <= most && x.count(what) < most; i++) {
            call.run();
        }
    }

    static SwitchBook told(String text) {
        SwitchBook x = new SwitchBook();
        int answer = tell(x, text);
        if (answer < 0) {
            System.out.println("a test's own text is refused: " + text + ": " + answer);
            System.exit(1);
        }
        return x;
    }

    void tells(String text, int due) {
        due("book of '" + text + "'", tell(new SwitchBook(), text), due);
    }

    /** The place of ^ is that of the fault; ^ itself is not told. */
    void faults(String marked) {
        int place = marked.indexOf('^');
        tells(marked.substring(0, place) + marked.substring(place + 1), -10 - place);
    }

    /** Numbers beyond both edges: next to them, where bits or bytes wrap around, and the ends of int. */
    static int[] beyond(int least, int most) {
        long[] steps = {1, 2, 8, 16, 31, 32, 64, 256, 65536, 1L << 31};
        LongStream near = Arrays.stream(steps).flatMap(s -> LongStream.of(least - s, most - s, least + s, most + s));
        IntStream ends = IntStream.of(Integer.MIN_VALUE, Integer.MIN_VALUE + 1, Integer.MAX_VALUE - 1, Integer.MAX_VALUE);
        return IntStream.concat(near.mapToInt(v -> (int) v), ends)
            .filter(v -> v < least || v > most).distinct().sorted().toArray();
    }

    /** A call by one number. */
    interface Row {
        int at(int k);
    }

    void dueBadBeyond(String call, int least, int most, Row row) {
        for (int v : beyond(least, most)) {
            due(call + " by " + v, row.at(v), SwitchBook.BAD);
        }
    }

    /** The cost of a row of moves, and its switches behind one another, as digits. */
    void dueRow(String call, Row row, int cost, String switches) {
        due(call + " cost", row.at(-1), cost);
        StringBuilder got = new StringBuilder();
        for (int k = 0; k < 300 && row.at(k) != SwitchBook.NONE; k++) {
            got.append(row.at(k));
        }
        due(call + " goes by", got.toString(), switches);
    }

    void dueNone(String call, Row row) {
        for (int k : new int[] {-1, 0, 1, 255, 256, Integer.MAX_VALUE}) {
            due(call + " by " + k, row.at(k), SwitchBook.NONE);
        }
    }

    void end() {
        System.out.println(test + ": " + (wrong == 0 ? "all " + calls + " answers are as due" : wrong + " answers are not as due"));
        if (wrong != 0) {
            System.exit(1);
        }
    }
}
