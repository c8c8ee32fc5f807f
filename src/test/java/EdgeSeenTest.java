/** The edges of what was seen (promises 20 to 23, and what the terms say of it), a test by sentence. */
public final class EdgeSeenTest {
    private static final Check check = new Check("EdgeSeenTest");
    // A source at 0, all others hang at it by an open breaker each: moving one makes one node live.
    private static final String STAR = "n6;s0;ba0 1;bb0 2;bc0 3;bd0 4;be0 5;";

    public static void main(String[] args) {
        sixAtMost();
        numbers();
        forget();
        nothingSeen();
        oneNotAsShown();
        allThatWasSeen();
        anySwitch();
        oneAtMost();
        greaterPart();
        theLowest();
        asThingsAre();
        check.end();
    }

    private static void sixAtMost() {
        check.says("SEEN (6 at most)");
        SwitchBook x = Check.told(STAR);
        check.due("none", x.count(3), 0);
        for (int i = 1; i <= 6; i++) {
            check.due("sees", x.sees(i - 1, 0), i);
            check.due("how much there is", x.count(3), i);
        }
        for (int u = 0; u < 6; u++) {
            check.due("a seventh", x.sees(u, 0), SwitchBook.FULL);
            check.due("a seventh", x.sees(u, 1), SwitchBook.FULL);
        }
        check.due("six", x.count(3), 6);
        x.forget();
        check.due("room again", x.sees(0, 0), 1);
        // The same again is one more.
        SwitchBook y = Check.told(STAR);
        for (int i = 1; i <= 6; i++) check.due("the same", y.sees(1, 1), i);
        check.due("the same, a seventh time", y.sees(1, 1), SwitchBook.FULL);
    }

    private static void numbers() {
        check.says("SEEN: how much there is. BAD; FULL.");
        for (int n = 2; n <= 6; n++) {
            SwitchBook x = Check.told("n" + n + ";");
            for (int live = 0; live < 2; live++) {
                int l = live;
                check.dueBadBeyond("sees", 0, n - 1, u -> x.sees(u, l));
            }
            for (int u = 0; u < n; u++) {
                int v = u;
                check.dueBadBeyond("sees " + u, 0, 1, live -> x.sees(v, live));
            }
            check.due("both are beyond", x.sees(n, 2), SwitchBook.BAD);
            check.due("nothing came", x.count(3), 0);
            check.due("the first node", x.sees(0, 0), 1);
            check.due("the last node", x.sees(n - 1, 1), 2);
            Check.fill(x, 3, 6, () -> x.sees(0, 0));
            check.dueBadBeyond("BAD ahead of FULL", 0, n - 1, u -> x.sees(u, 0));
            check.dueBadBeyond("BAD ahead of FULL", 0, 1, live -> x.sees(0, live));
        }
    }

    private static void forget() {
        check.says("Nothing is SEEN: how much was.");
        SwitchBook x = Check.told(STAR);
        check.due("none", x.forget(), 0);
        x.sees(0, 0);
        check.due("no switch makes that so", x.unseen(), 0);
        check.due("one", x.forget(), 1);
        check.due("none again", x.forget(), 0);
        check.due("all may be again", x.unseen(), 31);
        for (int i = 0; i < 7; i++) x.sees(0, 1);
        check.due("as much as there may be", x.forget(), 6);
        check.due("nothing is seen", x.count(3), 0);
        check.due("nothing to undo", x.now(8), 0);
    }

    private static void nothingSeen() {
        check.says("UNSEEN: SWITCHES (bits) by which all that was SEEN is so.");
        String[] items = {"ba0 1;", "bb1 2;", "ic0 2;", "id1 2;", "ee0;", "ef1;", "eg2;", "eh0;"};
        StringBuilder text = new StringBuilder();
        for (int many = 0; many <= 8; many++) {
            check.due("nothing seen of " + many, Check.told(text.toString()).unseen(), (1 << many) - 1);
            if (many < 8) text.append(items[many]);
        }
        // With no switches none can make it so, whatever is seen.
        SwitchBook x = Check.told("s0;");
        x.sees(0, 1);
        check.due("no switches", x.unseen(), 0);
    }

    private static void oneNotAsShown() {
        check.says("one unknown SWITCH not standing as shown, a NODE was LIVE (1), or DEAD (0).");
        for (int u = 1; u < 6; u++) {
            SwitchBook x = Check.told(STAR);
            x.sees(u, 1);
            check.due(u + " was live", x.unseen(), 1 << u - 1);
            SwitchBook y = Check.told(STAR);
            y.sees(u, 0);
            check.due(u + " was dead", y.unseen(), 31 & ~(1 << u - 1));
        }
        // Two would have to stand otherwise.
        SwitchBook x = Check.told(STAR);
        x.sees(1, 1);
        x.sees(2, 1);
        check.due("no single one", x.unseen(), 0);
        // All as shown: those that would change it stand as shown.
        SwitchBook y = Check.told(STAR + "ez5;");
        for (int u = 1; u < 6; u++) y.sees(u, 0);
        check.due("the earth alone is left", y.unseen(), 32);
        // Closed ones are open then.
        SwitchBook z = Check.told("s0;ba0 1;bb1 2;ca;cb;");
        z.sees(2, 0);
        check.due("either of them", z.unseen(), 3);
        z.sees(1, 1);
        check.due("the second one", z.unseen(), 2);
    }

    private static void allThatWasSeen() {
        check.says("all that was SEEN is so");
        // Whichever of six sights is the one that a switch does not make so.
        for (int wrong = 0; wrong < 6; wrong++) {
            SwitchBook x = Check.told(STAR);
            for (int i = 0; i < 6; i++) x.sees(i == wrong ? 5 : 1, 1);
            check.due("one of six is not so, " + wrong, x.unseen(), 0);
        }
        SwitchBook x = Check.told(STAR);
        for (int i = 0; i < 6; i++) x.sees(i, i == 3 || i == 0 ? 1 : 0);
        check.due("all of six are so", x.unseen(), 4);
        SwitchBook y = Check.told(STAR);
        y.sees(4, 1);
        y.sees(4, 0);
        check.due("live and dead", y.unseen(), 0);
        // A seventh is refused, and does not count.
        for (int i = 0; i < 5; i++) y.sees(4, 1);
        y.forget();
        for (int i = 0; i < 6; i++) y.sees(4, 1);
        y.sees(4, 0);
        check.due("the seventh does not count", y.unseen(), 8);
    }

    private static void anySwitch() {
        check.says("one unknown SWITCH not standing as shown");
        // Locked, under load, at what is live: that it stands otherwise may be all the same.
        SwitchBook x = Check.told("s0;d1;ba0 2;ib0 1;ec0;ka;kc;");
        check.due("none is lawful to move", x.now(4), 0);
        check.due("all may be", x.unseen(), 7);
        x.sees(1, 1);
        check.due("the isolator", x.unseen(), 2);
        x.forget();
        x.sees(2, 1);
        check.due("the locked breaker", x.unseen(), 1);
    }

    private static void oneAtMost() {
        check.says("NONE (one can be at most).");
        check.due("no switches", new SwitchBook().look(), SwitchBook.NONE);
        check.due("one switch", Check.told("s0;ba0 1;").look(), SwitchBook.NONE);
        check.due("two switches", Check.told("s0;ba0 1;bb0 2;").look(), 1);
        SwitchBook x = Check.told(STAR);
        check.due("five are left", x.look(), 1);
        x.sees(1, 0);
        check.due("four are left", x.look(), 2);
        x.sees(2, 0);
        check.due("three are left", x.look(), 3);
        x.sees(3, 0);
        check.due("two are left", x.look(), 4);
        x.sees(4, 0);
        check.due("one is left", x.look(), SwitchBook.NONE);
        x.sees(5, 0);
        check.due("none is left", x.look(), SwitchBook.NONE);
    }

    private static void greaterPart() {
        check.says("LOOK: the NODE by which, LIVE or not, the greater part of these is smallest");
        // Only the last node tells anything.
        check.due("three and one", Check.told("n6;s0;ba0 5;bb0 5;bc0 5;ed1;").look(), 5);
        // Closed beside each other, moving one leaves 1 live; c makes 2 live, 2 tells one of three.
        check.due("one of three", Check.told("s0;ba0 1;bb0 1;bc0 2;ca;cb;").look(), 2);
        // Live by one of four (1), by two of four (2), by three of four (3, dead by its breaker alone).
        check.due("two and two", Check.told("n4;s0;ba0 1;bb0 2;bc0 2;bd0 3;cd;").look(), 2);
        // Three and two is better than four and one, on either side.
        check.due("live by two of five", Check.told("n4;s0;ba0 1;bb0 2;bc0 2;ed3;ee3;").look(), 2);
        check.due("live by three of five", Check.told("n4;s0;ba0 1;bb1 2;bc2 3;ed3;ee3;ca;cb;cc;").look(), 2);
    }

    private static void theLowest() {
        check.says("of several the lowest");
        check.due("none helps", Check.told("ba0 1;bb1 2;").look(), 0);
        check.due("all six are as good as one another", Check.told("n6;ea0;eb1;").look(), 0);
        check.due("1 is as good as 2", Check.told("s0;ba0 1;bb0 2;").look(), 1);
        check.due("0 is as good as 1", Check.told("s2;ba2 0;bb2 1;").look(), 0);
        check.due("live by one as good as dead by one", Check.told("s0;ba0 1;bb0 2;ca;").look(), 1);
        check.due("dead by one as good as live by one", Check.told("s0;ba0 1;bb0 2;cb;").look(), 1);
        check.due("4 is as good as 5", Check.told("n6;s0;ba0 4;bb0 5;").look(), 4);
    }

    private static void asThingsAre() {
        check.says("(As things are NOW; nothing is changed;");
        SwitchBook x = Check.told("s0;ba0 1;bb1 2;");
        x.sees(2, 1);
        check.due("no single one", x.unseen(), 0);
        x.moves(0);
        check.due("now the second one", x.unseen(), 2);
        x.moves(1);
        check.due("now 2 is live by neither", x.unseen(), 0);
        x.undo();
        check.due("undone", x.unseen(), 2);
        x.keep(0);
        x.undo();
        check.due("undone", x.unseen(), 0);
        x.back(0);
        check.due("back", x.unseen(), 2);
        check.due("what is seen stays", x.count(3), 1);
        String before = Portrait.of(x);
        x.unseen();
        x.look();
        check.due("nothing is changed", Portrait.of(x), before);
        // A fault leaves what was seen, a text that is right does not.
        check.due("a fault", Check.tell(x, ";"), -10);
        check.due("it stays", x.count(3), 1);
        x.clear();
        check.due("nothing told", x.book(), 0);
        check.due("nothing is seen", x.count(3), 0);
    }
}
