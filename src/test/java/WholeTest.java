import java.io.IOException;
import java.nio.file.Files;
import java.nio.file.Path;
import java.util.ArrayList;
import java.util.List;
import java.util.regex.Matcher;
import java.util.regex.Pattern;
import java.util.stream.Stream;

/** The document from its first line to its last: its sentences that name no edge, and that none is without a test. */
public final class WholeTest {
    private static final Check check = new Check("WholeTest");
    // 0 a, 1 b: breakers; 2 c: an isolator; 3 d: an earth.
    private static final String NET = "n3;s0;d2;ba0 1;bb0 1;ic1 2;ed2;";

    public static void main(String[] args) throws IOException {
        noSentenceWithoutATest();
        whatItIs();
        someOfThese();
        eachWithAName();
        itemsTell();
        movedLockedPriced();
        planWithoutAnother();
        nameAndClosed();
        earthedAndLowest();
        closedLiveEarthed();
        partsStatesFar();
        unseenAsBits();
        lookOrNone();
        headings();
        notPromised();
        check.end();
    }

    private static void whatItIs() {
        check.says("A book of switching: nodes, sources, loads, breakers, isolators, earths between them, told by a text; each is moved"
            + " just where that is lawful: no isolator under load, nothing live is earthed, nothing that is locked; orders listed, gone"
            + " through, stopped, undone; what is live, dead, earthed, what may be moved and why not; the cheapest order to a told state,"
            + " step by step, to have a node dead and earthed, to have all loads live; how many states can be come to, the farthest; which"
            + " switch does not stand as shown, by what is live, which node to look at; the odds that loads stay live when breakers trip;"
            + " images.");
        SwitchBook x = Check.told(NET);
        check.dueRow("to have all loads live", x::supply, 3, "20");
        check.due("the isolator", x.moves(2), 4);
        check.due("a breaker", x.moves(0), 5);
        check.due("no isolator under load", x.moves(2), SwitchBook.STATE);
        check.due("nothing live is earthed", x.moves(3), SwitchBook.STATE);
        x.locks(1);
        check.due("nothing that is locked", x.moves(1), SwitchBook.STATE);
        check.due("what may be moved", x.now(4), 1);
        for (int k = 0; k < 4; k++) check.due("why not " + k, x.device(k, 6), k == 0 ? 0 : k);
        for (int k : new int[] {0, 3, 2, 1, 3}) x.lists(k);
        check.due("gone through, stopped at the locked one", x.goes(), 3);
        check.due("all that is left", x.count(2), 2);
        check.due("live", x.now(1), 1);
        check.due("earthed", x.now(2), 4);
        check.due("undone", x.undo(), 3);
        check.due("as it was", x.now(0), 5);
        check.dueRow("to a told state", k -> x.plan(4, 0, k), 3, "02");
        check.dueRow("dead and earthed", k -> x.work(2, k), 4, "03");
        x.undo();
        check.due("how many states", x.now(6), 13);
        check.due("the odds", x.odds(2, 0) * 100 + x.odds(2, 1), 405);
        check.due("which node to look at", x.look(), 2);
        x.sees(2, 0);
        check.due("does not stand as shown", x.unseen(), 5);
        check.due("an image", x.keep(1), 5);
        x.moves(0);
        check.due("that image", x.back(1), 5);
    }

    private static void someOfThese() {
        check.says("SOURCES, LOADS: some of these.");
        for (int sources = 0; sources < 8; sources++) {
            for (int loads = 0; loads < 8; loads++) {
                StringBuilder text = new StringBuilder();
                for (int u = 0; u < 3; u++) {
                    if ((sources >> u & 1) == 1) text.append('s').append(u).append(';');
                    if ((loads >> u & 1) == 1) text.append('d').append(u).append(';');
                }
                SwitchBook x = Check.told(text.toString());
                check.due("live are the sources " + text, x.now(1), sources);
                check.due("loads that are live " + text, x.now(3), sources & loads);
                for (int u = 0; u < 3; u++) {
                    check.due("source " + u + " of " + text, x.node(u, 3), sources >> u & 1);
                    check.due("load " + u + " of " + text, x.node(u, 4), loads >> u & 1);
                }
            }
        }
    }

    private static void eachWithAName() {
        check.says("each with a NAME (a letter a .. z, each once), of a KIND: 0 a BREAKER, 1 an ISOLATOR (between two unlike NODES),"
            + " 2 an EARTH (of a NODE); OPEN or CLOSED, LOCKED or not.");
        String[] told = {"bx0 1;", "ix0 1;", "ex0;"};
        for (int kind = 0; kind < 3; kind++) {
            for (String closed : new String[] {"", "cx;"}) {
                for (String locked : new String[] {"", "kx;"}) {
                    SwitchBook x = Check.told(told[kind] + closed + locked);
                    check.due("kind", x.device(0, 0), kind);
                    check.due("name", x.device(0, 1), 'x');
                    check.due("closed " + closed, x.device(0, 4), closed.isEmpty() ? 0 : 1);
                    check.due("locked " + locked, x.device(0, 5), locked.isEmpty() ? 0 : 1);
                }
            }
        }
    }

    private static void itemsTell() {
        check.says("s U (a SOURCE) ; d U (a LOAD) ; b X U V (a BREAKER of NAME X), i X U V (an ISOLATOR), e X U (an EARTH), OPEN all ;");
        SwitchBook x = new SwitchBook();
        check.due("items", Check.tell(x, "s 2 ; d 1 ; b r 0 1 ; i q 2 0 ; e p 1 ;"), 5);
        int[][] due = {{0, 'r', 0, 1, 0, 0}, {1, 'q', 2, 0, 0, 0}, {2, 'p', 1, SwitchBook.NONE, 0, 0}};
        for (int k = 0; k < 3; k++) {
            for (int what = 0; what < 6; what++) check.due("device " + k + " " + what, x.device(k, what), due[k][what]);
        }
        for (int u = 0; u < 3; u++) {
            check.due("source", x.node(u, 3), u == 2 ? 1 : 0);
            check.due("load", x.node(u, 4), u == 1 ? 1 : 0);
        }
        check.due("open all", x.now(0), 0);
    }

    private static void movedLockedPriced() {
        check.says("MOVED, LOCKED (or not any more), PRICED (what it costs to MOVE one of each KIND: 1 .. 9; 1, 2, 3 at first).");
        SwitchBook x = Check.told("ba0 1;ib1 2;ec2;");
        check.dueRow("at first", k -> x.plan(7, 7, k), 6, "012");
        check.due("moved", x.moves(0), 1);
        check.due("and back", x.moves(0), 0);
        check.due("locked", x.locks(1), 1);
        check.dueNone("a locked one", k -> x.plan(7, 7, k));
        check.due("not any more", x.locks(1), 0);
        check.due("priced", x.prices(9, 1, 8), 18);
        check.dueRow("by these", k -> x.plan(7, 7, k), 18, "012");
        check.dueRow("one of each kind, 0", k -> x.plan(1, 1, k), 9, "0");
        check.dueRow("one of each kind, 1", k -> x.plan(2, 2, k), 1, "1");
        check.dueRow("one of each kind, 2", k -> x.plan(4, 4, k), 8, "2");
    }

    private static void planWithoutAnother() {
        check.says("the cost; the k-th SWITCH of them (of several such rows of MOVES the first, SWITCH by SWITCH); NONE.");
        SwitchBook x = Check.told("n4;s0;d3;ba0 1;bb2 3;ic1 2;ca;cb;cc;");
        check.dueRow("either breaker frees the isolator", k -> x.plan(4, 0, k), 3, "02");
        check.dueRow("with the breakers as they are behind it", k -> x.plan(7, 3, k), 4, "020");
        x.locks(0);
        check.dueRow("by the other one", k -> x.plan(4, 0, k), 3, "12");
        x.locks(1);
        check.dueNone("by none", k -> x.plan(4, 0, k));
    }

    private static void nameAndClosed() {
        check.says("0 its KIND, 1 its NAME (the letter), 2 its first NODE, 3 the second one (NONE: an EARTH), 4 whether it is CLOSED (1, 0),");
        SwitchBook x = Check.told("ez0;bq0 1;bb1 2;");
        for (int k = 0; k < 3; k++) check.due("name of " + k, x.device(k, 1), "bqz".charAt(k));
        for (int k = 0; k < 3; k++) {
            check.due("open", x.device(k, 4), 0);
            x.moves(k);
            check.due("closed", x.device(k, 4), 1);
        }
        x.undo();
        check.due("open again", x.device(2, 4), 0);
    }

    private static void earthedAndLowest() {
        check.says("0 whether it is LIVE (1, 0), 1 EARTHED (1, 0), 2 the lowest NODE of its PART, 3 whether it is a SOURCE (1, 0),");
        SwitchBook x = Check.told("n6;s4;ba4 1;bb5 2;bc2 3;ed3;ca;cb;cc;cd;");
        int[][] due = {{0, 0, 0, 0}, {1, 0, 1, 0}, {0, 1, 2, 0}, {0, 1, 2, 0}, {1, 0, 1, 1}, {0, 1, 2, 0}};
        for (int u = 0; u < 6; u++) {
            for (int what = 0; what < 4; what++) check.due("node " + u + " " + what, x.node(u, what), due[u][what]);
        }
    }

    private static void closedLiveEarthed() {
        check.says("0 SWITCHES that are CLOSED (bits), 1 NODES that are LIVE (bits), 2 EARTHED (bits),");
        SwitchBook x = Check.told("n6;s4;ba4 1;bb5 2;bc2 3;ed3;ca;cb;cc;cd;");
        int[][] due = {{15, 18, 44}, {11, 18, 8}, {3, 18, 0}, {2, 16, 0}, {0, 16, 0}};
        int[] moved = {-1, 2, 3, 0, 1};
        for (int i = 0; i < due.length; i++) {
            if (i > 0) x.moves(moved[i]);
            for (int what = 0; what < 3; what++) check.due("now " + what + " behind " + i, x.now(what), due[i][what]);
        }
    }

    private static void partsStatesFar() {
        check.says("5 PARTS, 6 STATES, 7 FAR,");
        SwitchBook x = Check.told("ba0 1;ib1 2;ec2;");
        check.due("parts", x.now(5), 3);
        check.due("states", x.now(6), 8);
        check.due("far", x.now(7), 6);
        x.moves(0);
        check.due("parts", x.now(5), 2);
        x.moves(1);
        check.due("parts", x.now(5), 1);
        x.locks(2);
        check.due("states without the earth", x.now(6), 4);
        check.due("far without the earth", x.now(7), 3);
        x.prices(9, 7, 1);
        check.due("far by other prices", x.now(7), 16);
    }

    private static void unseenAsBits() {
        check.says("`int unseen()`: UNSEEN, bits.");
        SwitchBook x = Check.told(NET);
        x.moves(2);
        check.due("nothing is seen", x.unseen(), 15);
        x.sees(1, 1);
        check.due("a breaker", x.unseen(), 3);
        x.forget();
        x.sees(1, 0);
        check.due("no breaker", x.unseen(), 12);
        x.sees(2, 1);
        check.due("none by which that is so", x.unseen(), 0);
    }

    private static void lookOrNone() {
        check.says("`int look()`: LOOK; NONE.");
        SwitchBook x = Check.told("n4;s0;ba0 1;bb0 2;bc0 3;");
        check.due("each of three tells one", x.look(), 1);
        x.sees(1, 0);
        check.due("b or c", x.look(), 2);
        x.sees(2, 0);
        check.due("c it is", x.look(), SwitchBook.NONE);
        x.sees(3, 0);
        check.due("none is left", x.look(), SwitchBook.NONE);
    }

    /** The file has the headings of the document, and behind each the calls that it is said to stand ahead of. */
    private static void headings() throws IOException {
        check.says("Ahead of the calls `type`, `clear`, `book`, `device`, `named`, `node`, `now` the interface says: ---- the book.");
        dueBehind("the book", "type clear book device named node now");
        check.says("Ahead of the calls `moves`, `locks`, `prices`, `lists`, `goes`, `drops`, `undo` the interface says: ---- what is done.");
        dueBehind("what is done", "moves locks prices lists goes drops undo");
        check.says("Ahead of the calls `plan`, `work`, `supply`, `odds` the interface says: ---- the cheapest order");
        dueBehind("the cheapest order", "plan work supply odds");
        check.says("Ahead of the calls `sees`, `forget`, `unseen`, `look` the interface says: ---- which does not stand as shown.");
        dueBehind("which does not stand as shown", "sees forget unseen look");
        check.says("Ahead of the calls `keep`, `back`, `count` the interface says: ---- images.");
        dueBehind("images", "keep back count");
    }

    private static void dueBehind(String heading, String calls) throws IOException {
        String file = Files.readString(Path.of("src/main/java/SwitchBook.java"));
        String[] parts = file.split("// ---- ");
        List<String> found = new ArrayList<>();
        for (String part : parts) {
            if (!part.startsWith(heading)) continue;
            Matcher m = Pattern.compile("public int (\\w+)\\(").matcher(part);
            while (m.find()) found.add(m.group(1));
        }
        check.due("behind " + heading, String.join(" ", found), calls);
    }

    /** Nothing to test: these say what is free. */
    private static void notPromised() {
        check.says("How the state is held inside the object is free, as are the speed of each call, the text of toString and the behaviour"
            + " of equals and hashCode. Use of one object from several threads at once is not promised to be safe. Nothing is promised"
            + " beyond the answers and state changes described above, and nothing about an object after its 512th call.");
    }

    // ---- the document, less what tests quote

    private static void noSentenceWithoutATest() throws IOException {
        String words = Doc.words();
        boolean[] quoted = new boolean[words.length()];
        for (String quote : quotes()) {
            for (int at = words.indexOf(quote); at >= 0; at = words.indexOf(quote, at + 1)) {
                for (int i = at; i < at + quote.length(); i++) quoted[i] = true;
            }
        }
        StringBuilder left = new StringBuilder();
        for (int i = 0; i < words.length(); i++) left.append(quoted[i] ? '|' : words.charAt(i));
        // Headings, marks and calls' heads promise nothing; the face is FaceTest's.
        String none = left.toString().replaceAll("public int \\w+\\([^)]*\\);", "")
            .replaceAll("# SwitchBook|## (What it is|The public face|Terms|Not promised)|## Promise \\d+: (A new object|\\w+)", "")
            .replaceAll("int \\w+\\([^)]*\\):|SwitchBook\\(\\):|======== \\d?|\\b(text|java)\\b|, too\\);", "")
            .replaceAll("[|:;,. (}]+", " ").trim();
        check.due("sentences that no test quotes", none, "");
    }

    private static List<String> quotes() throws IOException {
        List<String> found = new ArrayList<>();
        try (Stream<Path> files = Files.list(Path.of("src/test/java"))) {
            for (Path file : files.sorted().toList()) {
                Matcher m = Pattern.compile("says\\(((\\s*\\+?\\s*\"[^\"]*\")+)\\)").matcher(Files.readString(file));
                while (m.find()) found.add(Doc.plain(m.group(1).replaceAll("\"\\s*\\+\\s*\"", "").trim().replace("\"", "")));
            }
        }
        return found;
    }
}
