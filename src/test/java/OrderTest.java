/** Promises 16 to 19: plan, work, supply, odds. */
public final class OrderTest {
    private static final Check check = new Check("OrderTest");

    public static void main(String[] args) {
        plan();
        planOfSeveralRows();
        planThatCannotBe();
        planRefused();
        work();
        supply();
        nothingIsChanged();
        odds();
        check.end();
    }

    private static void plan() {
        // a, b are breakers, c an isolator, d an earth: 0 .. 3.
        SwitchBook x = Check.told("s0;d2;ba0 1;bb0 2;ic1 2;ed2;ca;cc;");
        check.dueRow("as it is", k -> x.plan(15, 5, k), 0, "");
        check.dueRow("of none", k -> x.plan(0, 0, k), 0, "");
        check.dueRow("the isolator open", k -> x.plan(4, 0, k), 3, "02");
        check.dueRow("the isolator open, its breaker closed", k -> x.plan(5, 1, k), 3, "12");
        check.dueRow("the same, the other breaker open", k -> x.plan(7, 1, k), 4, "020");
        check.dueRow("earthed", k -> x.plan(8, 8, k), 4, "03");
        check.dueRow("all open", k -> x.plan(15, 0, k), 3, "02");
        check.dueRow("earthed, the breaker closed", k -> x.plan(9, 9, k), 7, "0203");
        x.prices(9, 1, 1);
        check.dueRow("by other prices", k -> x.plan(8, 8, k), 10, "03");
        x.locks(0);
        check.dueRow("the breaker locked", k -> x.plan(4, 0, k), 10, "12");
        check.dueRow("a locked one as it is", k -> x.plan(1, 1, k), 0, "");
        check.due("a locked one moved", x.plan(1, 0, -1), SwitchBook.NONE);
        check.due("a locked one moved, k", x.plan(1, 0, 0), SwitchBook.NONE);
    }

    private static void planOfSeveralRows() {
        SwitchBook x = Check.told("n6;ba0 1;bb1 2;bc2 3;bd3 4;be4 5;ce;");
        check.dueRow("all of them by number", k -> x.plan(31, 15, k), 5, "01234");
        x.moves(0);
        check.dueRow("by number, open or not", k -> x.plan(31, 14, k), 5, "01234");
        // An isolator and a breaker, or one breaker alone: the cheaper one, though its number is higher.
        SwitchBook y = Check.told("n4;s0;s1;d3;ia0 2;bb2 3;bc1 3;");
        check.dueRow("the cheaper one", k -> y.supply(k), 1, "1");
        SwitchBook z = Check.told("n4;s0;s1;d2;ba0 2;bb1 2;");
        check.dueRow("the lower of two", k -> z.supply(k), 1, "0");
        // Two breakers (1 + 1) or an isolator (2): the breakers have the lower numbers.
        SwitchBook w = Check.told("n4;s0;ba0 3;bb3 1;ic0 2;bd2 1;d1;");
        check.dueRow("as dear, lower numbers", k -> w.supply(k), 2, "01");
        // The isolator between two sources is lawful only beside the closed breaker.
        SwitchBook v = Check.told("s0;d2;s1;ba0 1;bb1 2;ic0 1;");
        check.dueRow("the breaker ahead of the isolator", k -> v.plan(5, 5, k), 3, "02");
        check.dueRow("and opened behind it", k -> v.plan(5, 4, k), 4, "020");
    }

    private static void planThatCannotBe() {
        SwitchBook x = Check.told("s0;d1;ia0 1;eb0;bc1 2;");
        // c, a, b: the isolator is held, the earth is at the source.
        check.due("held", x.plan(2, 2, -1), SwitchBook.NONE);
        check.due("held, k", x.plan(2, 2, 0), SwitchBook.NONE);
        check.due("at the source", x.plan(4, 4, -1), SwitchBook.NONE);
        check.due("the breaker", x.plan(1, 1, -1), 1);
        check.due("the breaker, k", x.plan(1, 1, 0), 0);
        check.due("no second one", x.plan(1, 1, 1), SwitchBook.NONE);
        check.due("k far beyond", x.plan(1, 1, Integer.MAX_VALUE), SwitchBook.NONE);
    }

    private static void planRefused() {
        SwitchBook x = Check.told("ba0 1;bb1 2;");
        int[][] bad = {{4, 0, 0}, {4, 4, 0}, {1, 2, 0}, {0, 1, 0}, {3, 4, 0}, {-1, 0, 0}, {3, -1, 0}, {3, 3, -2},
            {256, 0, -1}, {Integer.MIN_VALUE, 0, -1}, {0, Integer.MIN_VALUE, -1}, {3, 3, Integer.MIN_VALUE}};
        for (int[] b : bad) check.due("plan " + b[0] + " " + b[1] + " " + b[2], x.plan(b[0], b[1], b[2]), SwitchBook.BAD);
        check.due("plan", x.plan(3, 3, -1), 2);
        for (int[] b : new int[][] {{-1, 0}, {3, 0}, {0, -2}, {Integer.MAX_VALUE, -1}}) {
            check.due("work " + b[0] + " " + b[1], x.work(b[0], b[1]), SwitchBook.BAD);
        }
        check.due("supply -2", x.supply(-2), SwitchBook.BAD);
        check.due("supply min", x.supply(Integer.MIN_VALUE), SwitchBook.BAD);
        SwitchBook eight = Check.told("ba0 1;bb0 1;bc0 1;bd0 1;ie0 1;if0 1;eg0;eh0;");
        check.due("all eight", eight.plan(255, 255, -1), 14);
        check.due("a ninth", eight.plan(256, 256, -1), SwitchBook.BAD);
    }

    private static void work() {
        // s0 -a- 1 -b- 2 (load), earths c at 1, d at 2.
        SwitchBook x = Check.told("s0;d2;ba0 1;ib1 2;ec1;ed2;ca;cb;");
        check.due("the source", x.work(0, -1), SwitchBook.NONE);
        check.due("the source, k", x.work(0, 0), SwitchBook.NONE);
        check.dueRow("node 1", k -> x.work(1, k), 4, "02");
        // Hanging together, an earth at 1 does for 2.
        check.dueRow("node 2", k -> x.work(2, k), 4, "02");
        x.locks(2);
        check.dueRow("node 1, its earth locked", k -> x.work(1, k), 4, "03");
        x.locks(0);
        check.due("node 1, its breaker locked", x.work(1, -1), SwitchBook.NONE);
        SwitchBook y = Check.told("s0;ea1;ca;");
        check.dueRow("earthed already", k -> y.work(1, k), 0, "");
        check.due("no earth", y.work(2, -1), SwitchBook.NONE);
        SwitchBook z = Check.told("ea0;bb0 1;");
        check.dueRow("dead, the earth by a breaker", k -> z.work(1, k), 4, "01");
    }

    private static void supply() {
        SwitchBook x = Check.told("n4;s0;d2;d3;ba0 1;ib1 2;ec2;bd1 3;cc;");
        // a, d, b, c: 0, 1, 2, 3.
        // The isolator ahead of a, which makes 1 live; the earth, too, as 1 and 2 hang together then.
        check.dueRow("both loads", k -> x.supply(k), 7, "1230");
        SwitchBook y = Check.told("s0;d0;d1;");
        check.due("a load that can't be", y.supply(-1), SwitchBook.NONE);
        check.due("a load that can't be, k", y.supply(0), SwitchBook.NONE);
        SwitchBook z = Check.told("s0;ba0 1;");
        check.dueRow("no loads", k -> z.supply(k), 0, "");
        SwitchBook w = Check.told("s0;d0;ba0 1;");
        check.dueRow("a load at a source", k -> w.supply(k), 0, "");
    }

    private static void nothingIsChanged() {
        SwitchBook x = Check.told("s0;d2;ba0 1;ib1 2;ec1;ed2;ca;cb;");
        x.lists(0);
        x.plan(15, 0, 3);
        x.work(2, 1);
        x.supply(0);
        x.odds(5, 0);
        x.now(6);
        x.now(7);
        check.due("closed", x.now(0), 3);
        check.due("order", x.count(2), 1);
        check.due("undo", x.now(8), 0);
        check.due("seen", x.count(3), 0);
    }

    private static void odds() {
        SwitchBook one = Check.told("s0;d1;ba0 1;ca;");
        fraction("one breaker", one, 0, 1, 1);
        fraction("one breaker", one, 1, 9, 10);
        fraction("one breaker", one, 2, 4, 5);
        fraction("one breaker", one, 5, 1, 2);
        fraction("one breaker", one, 10, 0, 1);
        SwitchBook row = Check.told("s0;d2;ba0 1;bb1 2;ca;cb;");
        fraction("one behind the other", row, 3, 49, 100);
        row.locks(0);
        fraction("a locked one trips too", row, 3, 49, 100);
        SwitchBook beside = Check.told("s0;d1;ba0 1;bb0 1;ca;cb;");
        fraction("one beside the other", beside, 3, 91, 100);
        SwitchBook kept = Check.told("s0;d1;ba0 1;ib0 1;ca;cb;");
        fraction("an isolator holds", kept, 7, 1, 1);
        SwitchBook alone = Check.told("s0;d1;ia0 1;ca;");
        fraction("an isolator alone holds", alone, 7, 1, 1);
        SwitchBook dead = Check.told("s0;d1;d2;ba0 1;bb0 2;ca;");
        fraction("a load that is dead does not count", dead, 4, 3, 5);
        SwitchBook none = Check.told("s0;d1;ba0 1;bb1 2;cb;");
        fraction("no load is live", none, 10, 1, 1);
        SwitchBook eight = Check.told("n2;s0;d1;ba0 1;bb0 1;bc0 1;bd0 1;be0 1;bf0 1;bg0 1;bh0 1;ca;cb;cc;cd;ce;cf;cg;ch;");
        fraction("eight beside one another", eight, 9, 56953279, 100000000);
        fraction("eight beside one another", eight, 1, 99999999, 100000000);
        for (int[] b : new int[][] {{-1, 0}, {11, 0}, {5, -1}, {5, 2}, {Integer.MIN_VALUE, 0}, {0, Integer.MAX_VALUE}}) {
            check.due("odds " + b[0] + " " + b[1], one.odds(b[0], b[1]), SwitchBook.BAD);
        }
    }

    private static void fraction(String call, SwitchBook x, int by, int upper, int lower) {
        check.due(call + ", upper by " + by, x.odds(by, 0), upper);
        check.due(call + ", lower by " + by, x.odds(by, 1), lower);
    }
}
