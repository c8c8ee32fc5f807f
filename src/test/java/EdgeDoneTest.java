import java.util.function.Consumer;

/** The edges of what is done (promises 9 to 15, and what the terms say of it), a test by sentence. */
public final class EdgeDoneTest {
    private static final Check check = new Check("EdgeDoneTest");
    private static final String EIGHT = "n6;ba0 1;bb1 2;bc2 3;id3 4;ie4 5;ef0;eg1;eh5;";

    public static void main(String[] args) {
        moves();
        notLawful();
        locks();
        prices();
        pricesAtFirst();
        lists();
        noneListedAtFirst();
        goes();
        upToTheFirst();
        lawfulThen();
        whatIsLeft();
        drops();
        undo();
        theFourThatAreUndone();
        tenAreKnown();
        theOrderStays();
        check.end();
    }

    private static void moves() {
        check.says("MOVED: SWITCHES that are CLOSED then (bits). BAD; STATE: it is not LAWFUL.");
        SwitchBook x = Check.told(EIGHT);
        int closed = 0;
        for (int k = 0; k < 8; k++) {
            closed |= 1 << k;
            check.due("moves " + k, x.moves(k), closed);
        }
        check.due("all eight", x.now(0), 255);
        for (int k = 7; k >= 0; k--) {
            closed &= ~(1 << k);
            check.due("moves " + k, x.moves(k), closed);
        }
        check.dueBadBeyond("moves, of eight", 0, 7, x::moves);
        check.dueBadBeyond("moves, of one", 0, 0, Check.told("ba0 1;")::moves);
        check.dueBadBeyond("moves, of none", 0, -1, new SwitchBook()::moves);
    }

    private static void notLawful() {
        check.says("STATE: it is not LAWFUL.");
        String[] texts = {"ba0 1;ka;", "ba0 1;ca;ka;", "s0;s1;ia0 1;", "s0;d1;ia0 1;ca;", "s0;ea0;", "s0;ba0 1;ex1;cx;"};
        int[] reasons = {1, 1, 2, 2, 3, 3};
        for (int i = 0; i < texts.length; i++) {
            SwitchBook x = Check.told(texts[i]);
            int closed = x.now(0);
            check.due("why", x.device(0, 6), reasons[i]);
            check.due("moves in '" + texts[i] + "'", x.moves(0), SwitchBook.STATE);
            check.due("closed as it was", x.now(0), closed);
            check.due("nothing to undo", x.now(8), 0);
        }
    }

    private static void locks() {
        check.says("LOCKED (1), or not any more (0). BAD.");
        SwitchBook x = Check.told(EIGHT);
        for (int k = 0; k < 8; k++) {
            check.due("locks " + k, x.locks(k), 1);
            check.due("locked", x.device(k, 5), 1);
        }
        check.due("none is lawful", x.now(4), 0);
        for (int k = 7; k >= 0; k--) {
            check.due("locks " + k + " again", x.locks(k), 0);
            check.due("not locked", x.device(k, 5), 0);
        }
        check.due("all are lawful", x.now(4), 255);
        check.due("nothing is moved", x.now(0), 0);
        check.dueBadBeyond("locks, of eight", 0, 7, x::locks);
        check.dueBadBeyond("locks, of one", 0, 0, Check.told("ba0 1;")::locks);
        check.dueBadBeyond("locks, of none", 0, -1, new SwitchBook()::locks);
        // What can't be moved can be locked, and one that is told as locked can be freed.
        SwitchBook y = Check.told("s0;ea0;eb1;kb;");
        check.due("one that can't be moved", y.locks(0), 1);
        check.due("one that is told as locked", y.locks(1), 0);
    }

    private static void prices() {
        check.says("PRICED (what it costs to MOVE one of each KIND: 1 .. 9; 1, 2, 3 at first).");
        SwitchBook x = Check.told("ba0 1;");
        for (int p = 1; p <= 9; p++) {
            check.due("breaker " + p, x.prices(p, 1, 9), p + 10);
            check.due("its price", x.count(5), p);
            check.due("isolator " + p, x.prices(9, p, 1), p + 10);
            check.due("its price", x.count(6), p);
            check.due("earth " + p, x.prices(1, 9, p), p + 10);
            check.due("its price", x.count(7), p);
        }
        check.due("the lowest", x.prices(1, 1, 1), 3);
        check.due("the highest", x.prices(9, 9, 9), 27);
        check.dueBadBeyond("breaker", 1, 9, p -> x.prices(p, 1, 1));
        check.dueBadBeyond("isolator", 1, 9, p -> x.prices(1, p, 1));
        check.dueBadBeyond("earth", 1, 9, p -> x.prices(1, 1, p));
        check.dueBadBeyond("all", 1, 9, p -> x.prices(p, p, p));
        check.due("they stay", x.count(5) * 100 + x.count(6) * 10 + x.count(7), 999);
    }

    private static void pricesAtFirst() {
        check.says("1, 2, 3 at first");
        for (SwitchBook x : new SwitchBook[] {new SwitchBook(), Check.told("ba0 1;")}) {
            check.due("at first", x.count(5) * 100 + x.count(6) * 10 + x.count(7), 123);
        }
    }

    private static void lists() {
        check.says("A SWITCH comes behind THE ORDER: how many it has. BAD; FULL.");
        check.says("THE ORDER: SWITCHES, one behind the other (12 at most; none at first).");
        SwitchBook x = Check.told(EIGHT);
        check.dueBadBeyond("lists, of eight", 0, 7, x::lists);
        for (int i = 1; i <= 12; i++) check.due("lists", x.lists(i % 8), i);
        for (int k = 0; k < 8; k++) check.due("a 13th", x.lists(k), SwitchBook.FULL);
        check.dueBadBeyond("lists, BAD ahead of FULL", 0, 7, x::lists);
        check.due("twelve", x.count(2), 12);
        check.due("goes", x.goes(), 12);
        // 1 .. 7, 0, 1 .. 4: 1 to 4 are moved twice.
        check.due("each as listed", x.now(0), 0b11100001);
        check.due("room again", x.lists(7), 1);
        check.dueBadBeyond("lists, of one", 0, 0, Check.told("ba0 1;")::lists);
        check.dueBadBeyond("lists, of none", 0, -1, new SwitchBook()::lists);
        // What can't be moved can be listed.
        check.due("one that can't be moved", Check.told("s0;ea0;ka;").lists(0), 1);
    }

    private static void noneListedAtFirst() {
        check.says("12 at most; none at first");
        SwitchBook x = Check.told("ba0 1;");
        check.due("none", x.count(2), 0);
        check.due("drops", x.drops(), 0);
        check.due("goes", x.goes(), SwitchBook.STATE);
        check.due("new", new SwitchBook().count(2), 0);
    }

    private static void goes() {
        check.says("THE ORDER is GONE THROUGH: how many are MOVED. STATE: it is empty, its first one is not LAWFUL.");
        check.due("empty, new", new SwitchBook().goes(), SwitchBook.STATE);
        for (String text : new String[] {"ba0 1;ka;", "s0;s1;ia0 1;", "s0;ea0;"}) {
            SwitchBook x = Check.told(text + "bz1 2;");
            int first = x.named('a');
            int other = x.named('z');
            x.lists(first);
            x.lists(other);
            check.due("the first one is not lawful", x.goes(), SwitchBook.STATE);
            check.due("nothing is moved", x.now(0), 0);
            check.due("all are left", x.count(2), 2);
            x.drops();
            x.lists(other);
            x.lists(first);
            check.due("the second one is not lawful", x.goes(), 1);
            check.due("one is moved", x.now(0), 1 << other);
            check.due("one is left", x.count(2), 1);
            check.due("then it is the first one", x.goes(), SwitchBook.STATE);
        }
        SwitchBook x = Check.told("ba0 1;");
        x.lists(0);
        check.due("one", x.goes(), 1);
        check.due("empty then", x.count(2), 0);
        check.due("empty", x.goes(), SwitchBook.STATE);
        for (int i = 0; i < 12; i++) x.lists(0);
        check.due("twelve times the same", x.goes(), 12);
        check.due("closed as it was", x.now(0), 1);
        check.due("empty", x.goes(), SwitchBook.STATE);
    }

    private static void upToTheFirst() {
        check.says("up to the first that is not LAWFUL then");
        // Of twelve, the locked one (1) stands at each place in turn.
        for (int place = 0; place < 12; place++) {
            SwitchBook x = Check.told("ba0 1;bb1 2;kb;");
            for (int i = 0; i < 12; i++) x.lists(i == place ? 1 : 0);
            check.due("goes", x.goes(), place == 0 ? SwitchBook.STATE : place);
            check.due("closed", x.now(0), place % 2);
            check.due("left", x.count(2), 12 - place);
            check.due("stopped", x.goes(), SwitchBook.STATE);
            x.locks(1);
            check.due("the rest", x.goes(), 12 - place);
            check.due("closed", x.now(0), 3);
        }
    }

    private static void lawfulThen() {
        check.says("GONE THROUGH: they are MOVED one behind the other");
        // An isolator that is lawful only behind the breaker's opening, and an earth only behind that.
        SwitchBook x = Check.told("s0;d2;ba0 1;ib1 2;ec2;ca;cb;");
        check.due("not lawful yet", x.now(4), 1);
        for (int k : new int[] {0, 2, 1, 2, 2}) x.lists(k);
        check.due("all are lawful then", x.goes(), 5);
        check.due("closed", x.now(0), 4);
        // Lawful at first, but no more when its turn comes.
        SwitchBook y = Check.told("s0;ba0 1;ec1;");
        check.due("both are lawful", y.now(4), 3);
        y.lists(0);
        y.lists(1);
        check.due("the earth is not lawful any more", y.goes(), 1);
        y.drops();
        y.undo();
        y.lists(1);
        y.lists(0);
        check.due("nor is the breaker, the other way round", y.goes(), 1);
        check.due("closed", y.now(0), 2);
    }

    private static void whatIsLeft() {
        check.says("THE ORDER has what is left (that one first).");
        SwitchBook x = Check.told("n4;ba0 1;bb1 2;bc2 3;kb;");
        for (int k : new int[] {0, 1, 2, 0}) x.lists(k);
        check.due("goes", x.goes(), 1);
        check.due("left", x.count(2), 3);
        check.due("one more comes behind them", x.lists(1), 4);
        x.locks(1);
        x.locks(2);
        check.due("that one is first", x.goes(), 1);
        check.due("closed", x.now(0), 3);
        x.locks(2);
        x.locks(1);
        check.due("then 2, 0", x.goes(), 2);
        check.due("closed", x.now(0), 6);
        x.locks(1);
        check.due("at last 1", x.goes(), 1);
        check.due("closed", x.now(0), 4);
        // What is left leaves room for as many as were moved.
        SwitchBook y = Check.told("ba0 1;bb1 2;kb;");
        for (int i = 0; i < 12; i++) y.lists(i == 5 ? 1 : 0);
        check.due("goes", y.goes(), 5);
        for (int i = 8; i <= 12; i++) check.due("lists", y.lists(0), i);
        check.due("full again", y.lists(0), SwitchBook.FULL);
    }

    private static void drops() {
        check.says("THE ORDER is empty: how many it had.");
        SwitchBook x = Check.told("ba0 1;bb1 2;kb;");
        check.due("none", x.drops(), 0);
        x.lists(0);
        check.due("one", x.drops(), 1);
        check.due("none again", x.drops(), 0);
        for (int i = 0; i < 13; i++) x.lists(0);
        check.due("as many as there may be", x.drops(), 12);
        check.due("empty", x.count(2), 0);
        check.due("nothing to go through", x.goes(), SwitchBook.STATE);
        check.due("nothing to undo", x.now(8), 0);
        check.due("nothing is moved", x.now(0), 0);
        x.lists(0);
        x.lists(1);
        x.goes();
        check.due("what was left", x.drops(), 1);
        check.due("moved yet", x.now(0), 1);
        check.due("the first of a new one", x.lists(0), 1);
        check.due("by itself", x.goes(), 1);
    }

    private static void undo() {
        check.says("UNDONE: how many more may be. STATE: none.");
        check.due("none, new", new SwitchBook().undo(), SwitchBook.STATE);
        SwitchBook x = Check.told("ba0 1;");
        check.due("none", x.undo(), SwitchBook.STATE);
        x.moves(0);
        check.due("one", x.undo(), 0);
        check.due("open", x.now(0), 0);
        check.due("an undo can't be undone", x.undo(), SwitchBook.STATE);
        x.moves(0);
        x.moves(0);
        x.moves(0);
        check.due("the latest one", x.undo(), 2);
        check.due("open", x.now(0), 0);
        x.locks(0);
        check.due("another one instead", x.undo(), 2);
        check.due("not locked", x.device(0, 5), 0);
        check.due("on", x.undo(), 1);
        check.due("closed", x.now(0), 1);
        check.due("on", x.undo(), 0);
        check.due("none", x.undo(), SwitchBook.STATE);
    }

    private static void theFourThatAreUndone() {
        check.says("UNDONE: the latest moves(), locks(), prices(), goes() that was not refused");
        undone("moves", x -> x.moves(0), true);
        undone("locks", x -> x.locks(0), true);
        undone("prices", x -> x.prices(9, 9, 9), true);
        undone("prices as they are", x -> x.prices(1, 2, 3), true);
        undone("goes", SwitchBook::goes, true);
        undone("type", x -> x.type('s'), false);
        undone("clear", SwitchBook::clear, false);
        undone("book with a fault", SwitchBook::book, false);
        undone("lists", x -> x.lists(0), false);
        undone("drops", SwitchBook::drops, false);
        undone("plan", x -> x.plan(1, 1, -1), false);
        undone("sees", x -> x.sees(0, 1), false);
        undone("forget", SwitchBook::forget, false);
        undone("look", SwitchBook::look, false);
        undone("keep", x -> x.keep(0), false);
        undone("moves, BAD", x -> x.moves(2), false);
        undone("moves, STATE", x -> x.moves(1), false);
        undone("locks, BAD", x -> x.locks(2), false);
        undone("prices, BAD", x -> x.prices(1, 2, 10), false);
        undone("goes, its first one not lawful", x -> {
            x.drops();
            x.lists(1);
            x.goes();
        }, false);
        undone("goes, empty", x -> {
            x.drops();
            x.goes();
        }, false);
        undone("undo, none", SwitchBook::undo, false);
    }

    private static void undone(String call, Consumer<SwitchBook> does, boolean known) {
        SwitchBook x = Check.told("s0;ba0 1;ee0;");
        x.lists(0);
        x.lists(0);
        x.lists(0);
        x.type('x');
        does.accept(x);
        check.due("may be undone behind " + call, x.now(8), known ? 1 : 0);
        check.due("undo behind " + call, x.undo(), known ? 0 : SwitchBook.STATE);
        check.due("who is closed", x.now(0), 0);
        check.due("who is locked", x.device(0, 5), 0);
        check.due("prices", x.count(5) * 100 + x.count(6) * 10 + x.count(7), 123);
    }

    private static void tenAreKnown() {
        check.says("(10 are known, older ones are lost)");
        for (int many = 0; many <= 25; many++) {
            SwitchBook x = Check.told(EIGHT);
            // The state behind each is another one: a number told by which switches are closed.
            for (int i = 0; i < many; i++) step(x, i);
            int known = Math.min(many, 10);
            check.due("may be undone", x.now(8), known);
            for (int left = known - 1; left >= 0; left--) {
                check.due("undo", x.undo(), left);
                check.due("as it was", x.now(0) + 1000 * x.count(5), standing(many - known + left));
            }
            check.due("older ones are lost", x.undo(), SwitchBook.STATE);
            check.due("it stays", x.now(0) + 1000 * x.count(5), standing(many - known));
        }
    }

    /** Moves and prices by turns. */
    private static void step(SwitchBook x, int i) {
        if (i % 2 == 0) x.moves(i / 2 % 8);
        else x.prices(1 + (i + 1) / 2 % 9, 1, 1);
    }

    private static int standing(int steps) {
        int closed = 0;
        int price = 1;
        for (int i = 0; i < steps; i++) {
            if (i % 2 == 0) closed ^= 1 << i / 2 % 8;
            else price = 1 + (i + 1) / 2 % 9;
        }
        return closed + 1000 * price;
    }

    private static void theOrderStays() {
        check.says("who is CLOSED, LOCKED, PRICES (THE ORDER stays).");
        SwitchBook x = Check.told("ba0 1;bb1 2;kb;");
        x.lists(0);
        x.lists(0);
        x.lists(0);
        x.lists(1);
        x.sees(0, 0);
        x.type('x');
        x.keep(1);
        check.due("goes", x.goes(), 3);
        check.due("all of it is undone at once", x.undo(), 0);
        check.due("open", x.now(0), 0);
        check.due("what was left is left", x.count(2), 1);
        check.due("and is what it was", x.goes(), SwitchBook.STATE);
        check.due("what is seen stays", x.count(3), 1);
        check.due("the text stays", x.count(4), 1);
        check.due("images stay", x.back(1), 0);
        // An order that was dropped does not come back, one that was listed later does not go.
        x.moves(0);
        x.drops();
        x.undo();
        check.due("dropped", x.count(2), 0);
        x.moves(0);
        x.lists(0);
        x.undo();
        check.due("listed", x.count(2), 1);
        // Locks come back with the moves made under them.
        SwitchBook y = Check.told("ba0 1;ca;ka;");
        y.locks(0);
        y.moves(0);
        y.locks(0);
        y.undo();
        y.undo();
        y.undo();
        check.due("closed as at first", y.now(0), 1);
        check.due("locked as at first", y.device(0, 5), 1);
    }
}
