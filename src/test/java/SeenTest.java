/** Promises 20 to 23: what was seen, which switch may not stand as shown, where to look. */
public final class SeenTest {
    private static final Check check = new Check("SeenTest");

    public static void main(String[] args) {
        sees();
        unseen();
        look();
        lookOfSeveral();
        asThingsAreNow();
        check.end();
    }

    private static void sees() {
        SwitchBook x = Check.told("s0;ba0 1;");
        check.due("forget of nothing", x.forget(), 0);
        for (int[] b : new int[][] {{-1, 0}, {3, 0}, {0, -1}, {0, 2}, {Integer.MAX_VALUE, 1}, {0, Integer.MIN_VALUE}}) {
            check.due("sees " + b[0] + " " + b[1], x.sees(b[0], b[1]), SwitchBook.BAD);
        }
        for (int i = 1; i <= 6; i++) check.due("sees", x.sees(0, 1), i);
        check.due("a seventh", x.sees(0, 1), SwitchBook.FULL);
        check.due("BAD is ahead of FULL", x.sees(3, 1), SwitchBook.BAD);
        check.due("count 3", x.count(3), 6);
        check.due("forget", x.forget(), 6);
        check.due("count 3", x.count(3), 0);
        check.due("sees", x.sees(1, 0), 1);
    }

    private static void unseen() {
        // 0 source -a- 1 -b- 2 -c- 3, all closed; d from 0 to 3 is open; e earths 3: 0 .. 4.
        SwitchBook x = Check.told("n4;s0;ba0 1;bb1 2;bc2 3;bd0 3;ee3;ca;cb;cc;");
        check.due("nothing is seen", x.unseen(), 31);
        x.sees(3, 0);
        check.due("3 is dead", x.unseen(), 7);
        x.sees(2, 1);
        check.due("2 is live", x.unseen(), 4);
        x.forget();
        x.sees(2, 0);
        check.due("2 is dead", x.unseen(), 3);
        x.sees(2, 1);
        check.due("2 is both", x.unseen(), 0);
        x.forget();
        x.sees(1, 1);
        check.due("1 is live", x.unseen(), 30);
        x.forget();
        x.sees(0, 0);
        check.due("a source is live by any", x.unseen(), 0);
        check.due("forget", x.forget(), 1);
        check.due("nothing is seen any more", x.unseen(), 31);
        x.locks(0);
        check.due("a locked one, too", x.unseen(), 31);
        SwitchBook y = Check.told("s0;ia0 1;d1;");
        y.sees(1, 1);
        check.due("one that it is not lawful to move", y.unseen(), 1);
        check.due("no switches", new SwitchBook().unseen(), 0);
    }

    private static void look() {
        SwitchBook x = Check.told("n4;s0;ba0 1;bb1 2;bc2 3;bd0 3;ee3;ca;cb;cc;");
        // By a 1, 2, 3 are dead; by b 2, 3; by c 3; by d, e none: 3 is live by 2 of 5, 2 by 3 of 5.
        check.due("of five", x.look(), 2);
        x.sees(3, 0);
        check.due("of a, b, c", x.look(), 1);
        x.sees(1, 1);
        check.due("of b, c", x.look(), 2);
        x.sees(2, 1);
        check.due("one", x.look(), SwitchBook.NONE);
        x.sees(2, 0);
        check.due("none", x.look(), SwitchBook.NONE);
        check.due("no switches", new SwitchBook().look(), SwitchBook.NONE);
        check.due("one switch", Check.told("s0;ba0 1;").look(), SwitchBook.NONE);
    }

    private static void lookOfSeveral() {
        // No node tells them apart: the lowest.
        check.due("none helps", Check.told("ba0 1;bb1 2;").look(), 0);
        // By a, b: 1 or 2 is live: either tells, the lower is taken.
        check.due("either helps", Check.told("s0;ba0 1;bb0 2;").look(), 1);
        // By a, b, c open at the source 3: node 0, 1, 2.
        check.due("one of three", Check.told("n4;s3;ba3 0;bb3 1;bc3 2;").look(), 0);
        // 1, 2, 3 are live by one of four each: as good as one another, better than 0 and 4.
        check.due("the lowest of equals", Check.told("n5;s0;ba0 1;bb0 2;bc0 3;bd1 4;").look(), 1);
        // Four: by a, b node 3 is live: two and two, better than one and three.
        check.due("the evenest", Check.told("n4;s0;ba0 3;bb0 3;bc0 1;bd0 2;").look(), 3);
        // Live by two of three (1) counts as dead by two of three (2) does.
        check.due("live or not", Check.told("s0;ba0 1;bb0 2;ec0;ca;").look(), 1);
        check.due("dead or not", Check.told("s0;ba0 1;bb0 2;ec0;cb;").look(), 1);
    }

    private static void asThingsAreNow() {
        SwitchBook x = Check.told("s0;ba0 1;bb1 2;");
        x.sees(2, 1);
        check.due("none brings light to 2", x.unseen(), 0);
        x.moves(0);
        check.due("then b would", x.unseen(), 2);
        check.due("what is seen stays", x.count(3), 1);
        x.undo();
        check.due("undone", x.unseen(), 0);
        check.due("what is seen stays", x.count(3), 1);
        check.due("closed is as it was", x.now(0), 0);
    }
}
