import java.util.function.Consumer;

/** 'Refused, and nothing changes, the first of these: BAD .., STATE .., FULL': each call that can be refused, by each refusal. */
public final class RefusedTest {
    private static final Check check = new Check("RefusedTest");
    // Breakers a, b, an isolator c, an earth d: 0 .. 3.
    private static final String LIVE = "s0;d1;ba0 1;bb1 2;ic0 2;ed2;ca;";
    private static final String FREE = "ba0 1;bb1 2;ic0 2;ed2;ca;";

    public static void main(String[] args) {
        type();
        book();
        asked();
        moves();
        locks();
        prices();
        lists();
        goes();
        undo();
        cheapest();
        odds();
        sees();
        images();
        firstOfTwo();
        check.end();
    }

    /** Something in each thing that an object holds: a text, past, an order, sights, an image. */
    private static SwitchBook busy(String text) {
        SwitchBook x = Check.told(text);
        x.moves(1);
        x.locks(3);
        x.keep(1);
        x.prices(4, 5, 6);
        x.locks(3);
        for (int k : new int[] {1, 3, 0, 2, 1}) x.lists(k);
        x.sees(0, 1);
        x.sees(1, 0);
        for (char c : "n2;s1;".toCharArray()) x.type(c);
        return x;
    }

    /** Two alike, one of them refused something: they stay alike, in what is asked and in what is inside. */
    private static void nothingChanges(String call, Consumer<SwitchBook> ahead, Consumer<SwitchBook> refused) {
        for (String text : new String[] {LIVE, FREE}) {
            SwitchBook x = busy(text);
            SwitchBook y = busy(text);
            ahead.accept(x);
            ahead.accept(y);
            refused.accept(y);
            check.due("behind " + call, Portrait.of(y), Portrait.of(x));
            check.due("inside behind " + call, Portrait.inside(y), Portrait.inside(x));
        }
    }

    private static void nothingChanges(String call, Consumer<SwitchBook> refused) {
        nothingChanges(call, x -> { }, refused);
    }

    private static void type() {
        check.says("A letter (0 .. 255) comes to THE TEXT: how many it has. BAD; FULL.");
        nothingChanges("type, BAD", x -> check.dueBadBeyond("type", 0, 255, x::type));
        Consumer<SwitchBook> fill = x -> Check.fill(x, 4, 120, () -> x.type(' '));
        nothingChanges("type, FULL", fill, x -> {
            for (int letter : new int[] {';', 's', ' ', 0, 255}) check.due("type " + letter, x.type(letter), SwitchBook.FULL);
        });
        nothingChanges("type, BAD where it is full", fill, x -> check.due("type", x.type(256), SwitchBook.BAD));
    }

    private static void book() {
        check.says("-10 less FAULT: nothing changes.");
        // The text is n2;s1; and what is typed behind it.
        String[] wrong = {"x", "n2;", "s", "s1;", "s2;", "d", "d0;d0;", "ba0 1;ba0 1;", "ba0 0;", "ba0 2;", "ca;", "ka;", "ba0 1;ca;ca;",
            "ba0 1;ka;ka;", "s00;", "s100;", "A", "ea0 1;", "ea1;ca;", "ba0 1;eb0;cb;ca;", "ba0 1", "s0",
            "ea0;eb0;ec0;ed0;ee0;ef0;eg0;eh0;ei0;"};
        for (String tail : wrong) {
            Consumer<SwitchBook> type = x -> {
                for (char c : tail.toCharArray()) x.type(c);
            };
            nothingChanges("book of n2;s1;" + tail, type, x -> {
                int first = x.book();
                check.due("a fault of n2;s1;" + tail, first <= -10 ? 1 : 0, 1);
                check.due("the same again", x.book(), first);
            });
        }
    }

    private static void asked() {
        check.says("Of a SWITCH: 0 its KIND");
        nothingChanges("device", x -> {
            check.dueBadBeyond("device", 0, 3, k -> x.device(k, 0));
            check.dueBadBeyond("device of 0", 0, 6, what -> x.device(0, what));
        });
        check.says("BAD: no letter a .. z.");
        nothingChanges("named", x -> check.dueBadBeyond("named", 'a', 'z', x::named));
        check.says("Of a NODE: 0 whether it is LIVE (1, 0)");
        nothingChanges("node", x -> {
            check.dueBadBeyond("node", 0, 2, u -> x.node(u, 0));
            check.dueBadBeyond("node 0", 0, 4, what -> x.node(0, what));
        });
        check.says("8 how many may be UNDONE. BAD.");
        nothingChanges("now", x -> check.dueBadBeyond("now", 0, 8, x::now));
        check.says("5 to 7 what it costs to MOVE one of KIND 0 to 2. BAD.");
        nothingChanges("count", x -> check.dueBadBeyond("count", 0, 7, x::count));
    }

    private static void moves() {
        check.says("BAD; STATE: it is not LAWFUL.");
        nothingChanges("moves, BAD", x -> check.dueBadBeyond("moves", 0, 3, x::moves));
        nothingChanges("moves, STATE: locked", x -> x.locks(0), x -> check.due("moves", x.moves(0), SwitchBook.STATE));
        // Live are 0, 1, 2 by now: the earth at 2 is held by that.
        SwitchBook live = busy(LIVE);
        check.due("why", live.device(3, 6), 3);
        String before = Portrait.of(live);
        check.due("moves, STATE: live", live.moves(3), SwitchBook.STATE);
        check.due("behind moves of what is live", Portrait.of(live), before);
        live.moves(1);
        live.moves(0);
        live.moves(1);
        // 1, with its load, hangs together with 2: the isolator from 0 to 2 is under load.
        check.due("why", live.device(2, 6), 2);
        before = Portrait.of(live);
        check.due("moves, STATE: under load", live.moves(2), SwitchBook.STATE);
        check.due("behind moves of what is under load", Portrait.of(live), before);
    }

    private static void locks() {
        check.says("LOCKED (1), or not any more (0). BAD.");
        nothingChanges("locks", x -> check.dueBadBeyond("locks", 0, 3, x::locks));
    }

    private static void prices() {
        check.says("PRICED: of a BREAKER, an ISOLATOR, an EARTH: all together. BAD.");
        nothingChanges("prices", x -> {
            check.dueBadBeyond("prices, breaker", 1, 9, p -> x.prices(p, 2, 3));
            check.dueBadBeyond("prices, isolator", 1, 9, p -> x.prices(1, p, 3));
            check.dueBadBeyond("prices, earth", 1, 9, p -> x.prices(1, 2, p));
        });
    }

    private static void lists() {
        check.says("A SWITCH comes behind THE ORDER: how many it has. BAD; FULL.");
        nothingChanges("lists, BAD", x -> check.dueBadBeyond("lists", 0, 3, x::lists));
        nothingChanges("lists, FULL", x -> Check.fill(x, 2, 12, () -> x.lists(0)), x -> {
            for (int k = 0; k < 4; k++) check.due("lists", x.lists(k), SwitchBook.FULL);
        });
    }

    private static void goes() {
        check.says("STATE: it is empty, its first one is not LAWFUL.");
        nothingChanges("goes, empty", SwitchBook::drops, x -> check.due("goes", x.goes(), SwitchBook.STATE));
        nothingChanges("goes, the first one locked", x -> x.locks(1), x -> check.due("goes", x.goes(), SwitchBook.STATE));
        SwitchBook x = busy(LIVE);
        SwitchBook y = busy(LIVE);
        for (SwitchBook each : new SwitchBook[] {x, y}) {
            each.drops();
            each.lists(3);
            each.lists(1);
        }
        check.due("goes, the first one at what is live", y.goes(), SwitchBook.STATE);
        check.due("behind it", Portrait.of(y), Portrait.of(x));
        check.due("inside behind it", Portrait.inside(y), Portrait.inside(x));
    }

    private static void undo() {
        check.says("UNDONE: how many more may be. STATE: none.");
        nothingChanges("undo", x -> {
            for (int i = 0; i < 4; i++) x.undo();
        }, x -> check.due("undo", x.undo(), SwitchBook.STATE));
        nothingChanges("undo behind back()", x -> x.back(1), x -> check.due("undo", x.undo(), SwitchBook.STATE));
    }

    private static void cheapest() {
        check.says("BAD: bits that are no SWITCHES, the second set not of the first, k below -1.");
        nothingChanges("plan", x -> {
            check.dueBadBeyond("plan, set", 0, 15, set -> x.plan(set, 0, -1));
            check.dueBadBeyond("plan, closed", 0, 15, closed -> x.plan(15, closed, -1));
            check.dueBadBeyond("plan, k", -1, Integer.MAX_VALUE, k -> x.plan(15, 0, k));
        });
        check.says("WORK; NONE. BAD.");
        nothingChanges("work", x -> {
            check.dueBadBeyond("work", 0, 2, u -> x.work(u, -1));
            check.dueBadBeyond("work, k", -1, Integer.MAX_VALUE, k -> x.work(2, k));
        });
        check.says("SUPPLY; NONE. BAD.");
        nothingChanges("supply", x -> check.dueBadBeyond("supply", -1, Integer.MAX_VALUE, x::supply));
    }

    private static void odds() {
        check.says("ODDS: upper (what = 0), lower number (1), in least terms. BAD.");
        nothingChanges("odds", x -> {
            check.dueBadBeyond("odds", 0, 10, by -> x.odds(by, 0));
            check.dueBadBeyond("odds", 0, 1, what -> x.odds(5, what));
        });
    }

    private static void sees() {
        check.says("SEEN: how much there is. BAD; FULL.");
        nothingChanges("sees, BAD", x -> {
            check.dueBadBeyond("sees", 0, 2, u -> x.sees(u, 1));
            check.dueBadBeyond("sees 0", 0, 1, live -> x.sees(0, live));
        });
        nothingChanges("sees, FULL", x -> Check.fill(x, 3, 6, () -> x.sees(2, 0)), x -> {
            for (int u = 0; u < 3; u++) check.due("sees", x.sees(u, u % 2), SwitchBook.FULL);
        });
    }

    private static void images() {
        check.says("An IMAGE is kept: SWITCHES that are CLOSED (bits). BAD.");
        nothingChanges("keep", x -> check.dueBadBeyond("keep", 0, 1, x::keep));
        check.says("All of that becomes as an IMAGE has it: SWITCHES that are CLOSED (bits). BAD; STATE: none was kept.");
        nothingChanges("back, BAD", x -> check.dueBadBeyond("back", 0, 1, x::back));
        nothingChanges("back, STATE", x -> check.due("back", x.back(0), SwitchBook.STATE));
    }

    private static void firstOfTwo() {
        check.says("Refused, and nothing changes, the first of these: BAD (a number is not as told, or there is no such thing), STATE (as told), FULL.");
        SwitchBook x = Check.told("ba0 1;ka;");
        Check.fill(x, 4, 120, () -> x.type(' '));
        Check.fill(x, 2, 12, () -> x.lists(0));
        Check.fill(x, 3, 6, () -> x.sees(0, 0));
        check.due("type is full", x.type(0), SwitchBook.FULL);
        check.due("type is bad, too", x.type(256), SwitchBook.BAD);
        check.due("type is bad, too", x.type(-1), SwitchBook.BAD);
        check.due("lists is full, of a locked one, too", x.lists(0), SwitchBook.FULL);
        check.due("lists is bad, too", x.lists(1), SwitchBook.BAD);
        check.due("lists is bad, too", x.lists(-1), SwitchBook.BAD);
        check.due("sees is full", x.sees(2, 1), SwitchBook.FULL);
        check.due("sees is bad, too, by its node", x.sees(3, 1), SwitchBook.BAD);
        check.due("sees is bad, too, by what was seen", x.sees(2, 2), SwitchBook.BAD);
        check.due("moves: none is lawful", x.moves(0), SwitchBook.STATE);
        check.due("moves is bad, too", x.moves(1), SwitchBook.BAD);
        check.due("moves is bad, too", x.moves(-1), SwitchBook.BAD);
        check.due("back: none was kept", x.back(1), SwitchBook.STATE);
        check.due("back is bad, too", x.back(2), SwitchBook.BAD);
        check.due("back is bad, too", x.back(-1), SwitchBook.BAD);
    }
}
