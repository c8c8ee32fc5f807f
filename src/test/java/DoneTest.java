/** Promises 9 to 15: what is moved, locked, priced, listed, gone through, dropped, undone. */
public final class DoneTest {
    private static final Check check = new Check("DoneTest");

    public static void main(String[] args) {
        moves();
        locks();
        prices();
        lists();
        goes();
        drops();
        undo();
        tenAreKnown();
        whatIsRefusedIsNotUndone();
        check.end();
    }

    private static void moves() {
        SwitchBook x = Check.told("s0;d2;ba0 1;ib1 2;ec1;");
        check.due("an isolator between dead ones", x.moves(1), 2);
        check.due("then a breaker", x.moves(0), 3);
        check.due("live", x.now(1), 7);
        check.due("an isolator under load", x.moves(1), SwitchBook.STATE);
        check.due("an earth on what is live", x.moves(2), SwitchBook.STATE);
        check.due("nothing changed", x.now(0), 3);
        check.due("a breaker under load", x.moves(0), 2);
        check.due("an earth", x.moves(2), 6);
        check.due("a breaker on what is earthed", x.moves(0), SwitchBook.STATE);
        check.due("the earth again", x.moves(2), 2);
        for (int bad : new int[] {-1, 3, 8, 31, 32, Integer.MAX_VALUE, Integer.MIN_VALUE}) {
            check.due("moves " + bad, x.moves(bad), SwitchBook.BAD);
        }
        check.due("may be undone", x.now(8), 5);
    }

    private static void locks() {
        SwitchBook x = Check.told("s0;ba0 1;bb1 2;");
        check.due("locks", x.locks(1), 1);
        check.due("a locked one", x.moves(1), SwitchBook.STATE);
        check.due("why", x.device(1, 6), 1);
        check.due("another one", x.moves(0), 1);
        check.due("not any more", x.locks(1), 0);
        check.due("moves", x.moves(1), 3);
        check.due("locked while closed", x.locks(1), 1);
        check.due("a locked one", x.moves(1), SwitchBook.STATE);
        check.due("locked 0", x.device(0, 5), 0);
        check.due("locked 1", x.device(1, 5), 1);
        for (int bad : new int[] {-1, 2, 32, Integer.MIN_VALUE}) check.due("locks " + bad, x.locks(bad), SwitchBook.BAD);
        check.due("may be undone", x.now(8), 5);
    }

    private static void prices() {
        SwitchBook x = Check.told("ba0 1;ib0 1;ec0;");
        check.due("prices", x.prices(9, 1, 5), 15);
        check.due("breaker", x.count(5), 9);
        check.due("isolator", x.count(6), 1);
        check.due("earth", x.count(7), 5);
        check.due("far", x.now(7), 15);
        check.due("lowest", x.prices(1, 1, 1), 3);
        check.due("highest", x.prices(9, 9, 9), 27);
        int[][] bad = {{0, 1, 1}, {1, 0, 1}, {1, 1, 0}, {10, 1, 1}, {1, 10, 1}, {1, 1, 10}, {-1, 1, 1}, {Integer.MIN_VALUE, 1, 1}};
        for (int[] b : bad) check.due("prices " + b[0] + " " + b[1] + " " + b[2], x.prices(b[0], b[1], b[2]), SwitchBook.BAD);
        check.due("nothing changed", x.count(5) * 100 + x.count(6) * 10 + x.count(7), 999);
        check.due("may be undone", x.now(8), 3);
    }

    private static void lists() {
        SwitchBook x = Check.told("ba0 1;bb1 2;");
        for (int bad : new int[] {-1, 2, 32, Integer.MAX_VALUE}) check.due("lists " + bad, x.lists(bad), SwitchBook.BAD);
        for (int i = 1; i <= 12; i++) check.due("lists", x.lists(i % 2), i);
        check.due("a 13th", x.lists(0), SwitchBook.FULL);
        check.due("BAD is ahead of FULL", x.lists(2), SwitchBook.BAD);
        check.due("count 2", x.count(2), 12);
        check.due("nothing is moved", x.now(0), 0);
        check.due("nothing to undo", x.now(8), 0);
        check.due("goes", x.goes(), 12);
        check.due("each six times", x.now(0), 0);
        check.due("count 2", x.count(2), 0);
        check.due("all at once to undo", x.now(8), 1);
    }

    private static void goes() {
        SwitchBook x = Check.told("s0;d2;ba0 1;ib1 2;ec2;");
        check.due("empty", x.goes(), SwitchBook.STATE);
        for (int k : new int[] {1, 0, 1, 0, 2}) x.lists(k);
        check.due("up to the isolator under load", x.goes(), 2);
        check.due("closed", x.now(0), 3);
        check.due("left", x.count(2), 3);
        check.due("its first one is not lawful", x.goes(), SwitchBook.STATE);
        check.due("left as it was", x.count(2), 3);
        check.due("may be undone", x.now(8), 1);
        check.due("the breaker by hand", x.moves(0), 2);
        check.due("on to the end: the isolator, the breaker, the earth", x.goes(), 3);
        check.due("closed", x.now(0), 5);
        check.due("left", x.count(2), 0);
        check.due("empty", x.goes(), SwitchBook.STATE);
        x = Check.told("ba0 1;bb1 2;kb;");
        for (int k : new int[] {0, 1, 0}) x.lists(k);
        check.due("up to the locked one", x.goes(), 1);
        check.due("the locked one is first", x.goes(), SwitchBook.STATE);
        x.locks(1);
        check.due("not locked any more", x.goes(), 2);
        check.due("closed", x.now(0), 2);
    }

    private static void drops() {
        SwitchBook x = Check.told("ba0 1;");
        check.due("drops of nothing", x.drops(), 0);
        x.lists(0);
        x.lists(0);
        check.due("drops", x.drops(), 2);
        check.due("count 2", x.count(2), 0);
        check.due("drops again", x.drops(), 0);
        check.due("goes", x.goes(), SwitchBook.STATE);
        check.due("lists", x.lists(0), 1);
    }

    private static void undo() {
        SwitchBook x = Check.told("ba0 1;bb1 2;ca;");
        check.due("none", x.undo(), SwitchBook.STATE);
        x.moves(1);
        x.locks(0);
        x.prices(7, 8, 9);
        x.lists(1);
        x.lists(0);
        x.lists(1);
        check.due("goes", x.goes(), 1);
        check.due("may be undone", x.now(8), 4);
        check.due("goes undone", x.undo(), 3);
        check.due("closed", x.now(0), 3);
        check.due("the order stays", x.count(2), 2);
        check.due("prices undone", x.undo(), 2);
        check.due("prices", x.count(5) * 100 + x.count(6) * 10 + x.count(7), 123);
        check.due("locked yet", x.device(0, 5), 1);
        check.due("locks undone", x.undo(), 1);
        check.due("locked", x.device(0, 5), 0);
        check.due("moves undone", x.undo(), 0);
        check.due("closed", x.now(0), 1);
        check.due("none", x.undo(), SwitchBook.STATE);
        check.due("the order stays", x.count(2), 2);
        x.moves(1);
        check.due("one more", x.now(8), 1);
        check.due("undone", x.undo(), 0);
        check.due("closed", x.now(0), 1);
    }

    private static void tenAreKnown() {
        SwitchBook x = Check.told("ba0 1;bb1 2;bc0 2;");
        // What is known is told apart by the price of a breaker.
        for (int i = 1; i <= 9; i++) x.prices(i, 1, 1);
        check.due("nine", x.now(8), 9);
        x.moves(0);
        check.due("ten", x.now(8), 10);
        x.moves(1);
        check.due("the eleventh", x.now(8), 10);
        x.moves(2);
        check.due("the twelfth", x.now(8), 10);
        for (int left = 9; left >= 0; left--) check.due("undo", x.undo(), left);
        check.due("none", x.undo(), SwitchBook.STATE);
        check.due("the oldest known", x.count(5), 2);
        check.due("closed", x.now(0), 0);
    }

    private static void whatIsRefusedIsNotUndone() {
        SwitchBook x = Check.told("s0;ba0 1;eb0;");
        x.moves(1);
        x.moves(5);
        x.locks(5);
        x.prices(0, 0, 0);
        x.goes();
        x.lists(1);
        x.goes();
        x.keep(0);
        x.sees(0, 1);
        check.due("nothing to undo", x.now(8), 0);
        check.due("undo", x.undo(), SwitchBook.STATE);
    }
}
