import java.math.BigInteger;

/** The edges of plan, work, supply, odds (promises 16 to 19, and what the terms say of them), a test by sentence. */
public final class EdgeOrderTest {
    private static final Check check = new Check("EdgeOrderTest");
    private static final String[] ITEMS = {"ba0 1;", "bb1 2;", "bc2 3;", "id3 4;", "ie4 5;", "ef0;", "eg1;", "eh5;"};
    private static final int[] PRICES = {1, 1, 1, 2, 2, 3, 3, 3};
    // Its farthest state is 20 moves away, isolators being closed and opened again on the way.
    private static final String LONG_WAY = "n6;s0;s5;d1;d2;d3;d5;ia5 3;bb4 3;ic3 4;id2 5;ie1 4;if2 0;ig4 5;ih1 2;";

    public static void main(String[] args) {
        bitsThatAreNoSwitches();
        notOfTheFirst();
        kBelow();
        kBeyond();
        planOfNone();
        planOfAll();
        justThose();
        planThatCannotBe();
        cheapest();
        theFirstOfSeveral();
        longRow();
        work();
        workThatCannotBe();
        supply();
        supplyThatCannotBe();
        asThingsAre();
        oddsBeyond();
        oddsOfOne();
        oddsOfMany();
        oddsOfNone();
        loadsThatAreLive();
        leastTerms();
        check.end();
    }

    private static SwitchBook free(int switches) {
        return Check.told("n6;" + String.join("", java.util.Arrays.copyOf(ITEMS, switches)));
    }

    private static void bitsThatAreNoSwitches() {
        check.says("BAD: bits that are no SWITCHES");
        for (int many = 0; many <= 8; many++) {
            SwitchBook x = free(many);
            int all = (1 << many) - 1;
            check.due("all that there are", x.plan(all, 0, -1), 0);
            for (int bit = many; bit < 32; bit++) {
                check.due("set, bit " + bit + " of " + many, x.plan(1 << bit, 0, -1), SwitchBook.BAD);
                check.due("set, bit " + bit + " of " + many, x.plan(all | 1 << bit, all, 0), SwitchBook.BAD);
                check.due("both, bit " + bit + " of " + many, x.plan(1 << bit, 1 << bit, -1), SwitchBook.BAD);
            }
            check.dueBadBeyond("set", 0, all, set -> x.plan(set, 0, -1));
            check.due("set -1", x.plan(-1, 0, -1), SwitchBook.BAD);
            check.due("set -1, closed -1", x.plan(-1, -1, -1), SwitchBook.BAD);
        }
    }

    private static void notOfTheFirst() {
        check.says("the second set not of the first");
        SwitchBook x = free(3);
        for (int set = 0; set < 8; set++) {
            for (int closed = 0; closed < 8; closed++) {
                boolean of = (closed & set) == closed;
                check.due("plan " + set + " " + closed, x.plan(set, closed, -1), of ? Integer.bitCount(closed) : SwitchBook.BAD);
            }
            int s = set;
            check.dueBadBeyond("closed of " + set, 0, set, closed -> x.plan(s, closed, -1));
        }
        check.due("closed min", x.plan(7, Integer.MIN_VALUE, -1), SwitchBook.BAD);
        check.due("closed -1", x.plan(7, -1, -1), SwitchBook.BAD);
    }

    private static void kBelow() {
        check.says("k below -1.");
        SwitchBook x = Check.told("s0;d1;ba0 1;eb1;");
        check.dueBadBeyond("plan", -1, Integer.MAX_VALUE, k -> x.plan(1, 1, k));
        check.dueBadBeyond("plan that can't be", -1, Integer.MAX_VALUE, k -> x.plan(3, 3, k));
        check.dueBadBeyond("plan of none", -1, Integer.MAX_VALUE, k -> x.plan(0, 0, k));
        check.dueBadBeyond("work", -1, Integer.MAX_VALUE, k -> x.work(1, k));
        check.dueBadBeyond("work that can't be", -1, Integer.MAX_VALUE, k -> x.work(0, k));
        check.dueBadBeyond("supply", -1, Integer.MAX_VALUE, x::supply);
        check.dueBadBeyond("supply, new", -1, Integer.MAX_VALUE, new SwitchBook()::supply);
        check.due("plan -1", x.plan(1, 1, -1), 1);
        check.due("work -1", x.work(1, -1), 3);
        check.due("supply -1", x.supply(-1), 1);
    }

    private static void kBeyond() {
        check.says("---- the cheapest order (k = -1: the cost; else the k-th SWITCH; NONE).");
        SwitchBook x = free(8);
        for (int k = 0; k < 8; k++) check.due("k-th", x.plan(255, 255, k), k);
        for (int k : new int[] {8, 9, 255, 256, 257, Integer.MAX_VALUE - 1, Integer.MAX_VALUE}) {
            check.due("no " + k + "-th", x.plan(255, 255, k), SwitchBook.NONE);
        }
        SwitchBook y = Check.told("s0;d1;ba0 1;eb1;");
        check.due("work 0", y.work(1, 0), 1);
        check.due("work 1", y.work(1, 1), SwitchBook.NONE);
        check.due("work max", y.work(1, Integer.MAX_VALUE), SwitchBook.NONE);
        check.due("supply 0", y.supply(0), 0);
        check.due("supply 1", y.supply(1), SwitchBook.NONE);
        check.due("supply max", y.supply(Integer.MAX_VALUE), SwitchBook.NONE);
    }

    private static void planOfNone() {
        check.says("PLAN for a set of SWITCHES, another set (bits)");
        check.dueRow("no switches", k -> new SwitchBook().plan(0, 0, k), 0, "");
        for (int many = 0; many <= 8; many++) {
            SwitchBook x = free(many);
            check.dueRow("of none", k -> x.plan(0, 0, k), 0, "");
        }
        SwitchBook x = Check.told("ba0 1;bb1 2;ca;");
        check.dueRow("of none, one being closed", k -> x.plan(0, 0, k), 0, "");
    }

    private static void planOfAll() {
        check.says("the cheapest MOVES by which, of the first set, just those of the second one are CLOSED: the cost");
        StringBuilder row = new StringBuilder();
        int cost = 0;
        for (int many = 0; many <= 8; many++) {
            SwitchBook x = free(many);
            int all = (1 << many) - 1;
            check.dueRow("all of " + many, k -> x.plan(all, all, k), cost, row.toString());
            for (int k = 0; k < many; k++) x.moves(k);
            check.dueRow("all of " + many + " are so", k -> x.plan(all, all, k), 0, "");
            check.dueRow("none of " + many, k -> x.plan(all, 0, k), cost, row.toString());
            if (many < 8) {
                row.append(many);
                cost += PRICES[many];
            }
        }
        SwitchBook x = free(8);
        for (int k = 0; k < 8; k++) {
            int bit = 1 << k;
            check.dueRow("one alone", i -> x.plan(bit, bit, i), PRICES[k], "" + k);
            check.dueRow("one of all", i -> x.plan(255, bit, i), PRICES[k], "" + k);
        }
    }

    private static void justThose() {
        check.says("of the first set, just those of the second one are CLOSED");
        SwitchBook x = Check.told("ba0 1;bb1 2;bc0 2;ca;cb;");
        check.dueRow("the first one is in neither set", k -> x.plan(6, 4, k), 2, "12");
        check.dueRow("in the first set alone", k -> x.plan(7, 4, k), 3, "012");
        check.dueRow("in both", k -> x.plan(7, 5, k), 2, "12");
        check.dueRow("just as they are", k -> x.plan(7, 3, k), 0, "");
        check.dueRow("one set alone", k -> x.plan(1, 0, k), 1, "0");
    }

    private static void planThatCannotBe() {
        check.says("`int plan(int set, int closed, int k)`: PLAN; NONE.");
        check.dueNone("locked", k -> Check.told("ba0 1;ka;").plan(1, 1, k));
        check.dueNone("locked, closed", k -> Check.told("ba0 1;ca;ka;").plan(1, 0, k));
        check.dueNone("under load", k -> Check.told("s0;d1;ia0 1;").plan(1, 1, k));
        check.dueNone("under load, closed", k -> Check.told("s0;d1;ia0 1;ca;").plan(1, 0, k));
        check.dueNone("at a source", k -> Check.told("s0;ea0;").plan(1, 1, k));
        check.dueNone("live and earthed", k -> Check.told("s0;ba0 1;eb1;").plan(3, 3, k));
        // Each by itself can be.
        check.due("the breaker", Check.told("s0;ba0 1;eb1;").plan(3, 1, -1), 1);
        check.due("the earth", Check.told("s0;ba0 1;eb1;").plan(3, 2, -1), 3);
        // What is so already costs nothing, though it can't be moved.
        check.dueRow("locked as it is", k -> Check.told("ba0 1;ca;ka;").plan(1, 1, k), 0, "");
        check.dueRow("under load as it is", k -> Check.told("s0;d1;ia0 1;ca;").plan(1, 1, k), 0, "");
    }

    private static void cheapest() {
        check.says("the cheapest MOVES");
        // The load by an isolator and a breaker (2 + 1), or by two breakers and one more (3 x 1), or two (2 x 1).
        SwitchBook x = Check.told("n4;s0;d3;ba0 1;bb1 3;ic0 2;bd2 3;");
        check.dueRow("by two breakers", k -> x.supply(k), 2, "01");
        x.prices(5, 1, 1);
        check.dueRow("by the isolator and a breaker", k -> x.supply(k), 6, "32");
        x.prices(9, 9, 9);
        check.dueRow("at the highest prices", k -> x.supply(k), 18, "01");
        x.prices(1, 1, 1);
        check.dueRow("at the lowest prices", k -> x.supply(k), 2, "01");
        // More moves may be cheaper than one, or dearer: 2 hangs at the earth by two breakers or by an isolator.
        SwitchBook y = Check.told("ea0;bb0 1;bc1 2;id0 2;ca;");
        y.prices(1, 3, 1);
        check.dueRow("two breakers", k -> y.work(2, k), 2, "01");
        y.prices(2, 3, 1);
        check.dueRow("one isolator", k -> y.work(2, k), 3, "2");
    }

    private static void theFirstOfSeveral() {
        check.says("(of several such rows of MOVES the first, SWITCH by SWITCH)");
        // Either of two, each of eight: the lowest number.
        for (int last = 1; last < 8; last++) {
            StringBuilder text = new StringBuilder("n2;s0;d1;");
            for (int k = 0; k <= last; k++) text.append("b").append((char) ('a' + k)).append("0 1;");
            SwitchBook x = Check.told(text.toString());
            check.dueRow("the lowest of them", k -> x.supply(k), 1, "0");
            x.locks(0);
            check.dueRow("the next one", k -> x.supply(k), 1, "1");
        }
        // 0 then 3, or 1 then 2, as dear: the first switch tells.
        SwitchBook x = Check.told("n4;s0;d3;ba0 1;bb0 2;bc2 3;bd1 3;");
        check.dueRow("0 3 is ahead of 1 2", k -> x.supply(k), 2, "03");
        // 0 and 1 in any order: the lower first; 1 must come ahead of 0 only where the law asks for it.
        SwitchBook y = Check.told("n4;s0;d3;ba0 1;bb1 3;");
        check.dueRow("0 ahead of 1", k -> y.supply(k), 2, "01");
        SwitchBook z = Check.told("s0;d2;ba0 1;ib1 2;");
        check.dueRow("1 ahead of 0", k -> z.supply(k), 3, "10");
        // One isolator (2) or two breakers (1 + 1) behind each other: the lower numbers, not the fewer moves.
        SwitchBook w = Check.told("s0;ba0 2;bb2 1;ic0 1;ed1;");
        check.dueRow("two moves", k -> w.plan(3, 3, k), 2, "01");
        SwitchBook v = Check.told("n4;ea0;bb0 1;bc1 2;id0 2;ca;");
        check.dueRow("0 1 (2) is ahead of 2 (2)", k -> v.work(2, k), 2, "01");
    }

    private static void longRow() {
        check.says("the k-th SWITCH of them");
        SwitchBook x = Check.told(LONG_WAY);
        String row = "60106470370406106024";
        check.dueRow("twenty moves", k -> x.plan(255, 29, k), 33, row);
        check.due("the last one", x.plan(255, 29, 19), 4);
        check.due("no more", x.plan(255, 29, 20), SwitchBook.NONE);
        check.due("far", x.now(7), 33);
        for (int i = 0; i < row.length(); i++) check.due("lawful move " + i, x.moves(row.charAt(i) - '0') >= 0 ? 1 : 0, 1);
        check.due("come to", x.now(0), 29);
        check.dueRow("there", k -> x.plan(255, 29, k), 0, "");
        SwitchBook y = Check.told(LONG_WAY);
        y.prices(9, 9, 9);
        check.dueRow("at the highest prices", k -> y.plan(255, 29, k), 180, row);
        check.due("far at the highest prices", y.now(7), 180);
    }

    private static void work() {
        check.says("WORK for a NODE likewise: that it is DEAD and EARTHED.");
        for (int n = 2; n <= 6; n++) {
            int last = n - 1;
            SwitchBook x = Check.told("n" + n + ";s0;ea" + last + ";");
            check.dueRow("the last node", k -> x.work(last, k), 3, "0");
            check.dueBadBeyond("work", 0, last, u -> x.work(u, -1));
            check.dueBadBeyond("work, k", 0, last, u -> x.work(u, 0));
        }
        check.dueRow("node 0", k -> Check.told("ea0;").work(0, k), 3, "0");
        check.dueRow("so already", k -> Check.told("ea0;ca;").work(0, k), 0, "");
        check.dueRow("so already, locked", k -> Check.told("ea0;ca;ka;").work(0, k), 0, "");
        check.dueRow("live: opened, earthed", k -> Check.told("s0;ba0 1;eb1;ca;").work(1, k), 4, "01");
        check.dueRow("dead, not earthed", k -> Check.told("s0;ba0 1;eb1;").work(1, k), 3, "1");
        check.dueRow("earthed from afar", k -> Check.told("ea0;bb0 1;cb;").work(1, k), 3, "1");
        check.dueRow("hung at what is earthed", k -> Check.told("ea0;bb0 1;ca;").work(1, k), 1, "0");
        // Another node may stay live.
        check.dueRow("beside what is live", k -> Check.told("s0;s1;ea2;").work(2, k), 3, "0");
    }

    private static void workThatCannotBe() {
        check.says("`int work(int u, int k)`: WORK; NONE. BAD.");
        check.dueNone("a source", k -> Check.told("s0;ea0;").work(0, k));
        check.dueNone("no earth", k -> Check.told("s0;ba0 1;").work(1, k));
        check.dueNone("no switches", k -> new SwitchBook().work(0, k));
        check.dueNone("an earth elsewhere", k -> Check.told("ea0;").work(1, k));
        check.dueNone("its earth locked", k -> Check.told("ea0;ka;").work(0, k));
        check.dueNone("its breaker locked", k -> Check.told("s0;ba0 1;eb1;ca;ka;").work(1, k));
        check.dueNone("its isolator under load", k -> Check.told("s0;d1;ia0 1;eb1;ca;").work(1, k));
        for (int u : Check.beyond(0, 2)) check.due("BAD, not NONE", new SwitchBook().work(u, -1), SwitchBook.BAD);
    }

    private static void supply() {
        check.says("SUPPLY: that all LOADS are LIVE.");
        check.dueRow("no loads, new", k -> new SwitchBook().supply(k), 0, "");
        check.dueRow("no loads", k -> Check.told("ba0 1;").supply(k), 0, "");
        check.dueRow("live already", k -> Check.told("s0;d1;ba0 1;ca;").supply(k), 0, "");
        check.dueRow("at a source", k -> Check.told("s0;d0;").supply(k), 0, "");
        check.dueRow("one", k -> Check.told("s0;d1;ba0 1;").supply(k), 1, "0");
        check.dueRow("all six", k -> Check.told("n6;s0;d0;d1;d2;d3;d4;d5;ba0 1;bb1 2;bc2 3;bd3 4;be4 5;").supply(k), 5, "01234");
        check.dueRow("one of two is live", k -> Check.told("s0;d1;d2;ba0 1;bb0 2;ca;").supply(k), 1, "1");
        check.dueRow("the earth first", k -> Check.told("s0;d1;ba0 1;eb1;cb;").supply(k), 4, "10");
    }

    private static void supplyThatCannotBe() {
        check.says("`int supply(int k)`: SUPPLY; NONE. BAD.");
        check.dueNone("no source", k -> Check.told("d0;").supply(k));
        check.dueNone("no way", k -> Check.told("s0;d1;").supply(k));
        check.dueNone("no way to one of two", k -> Check.told("s0;d1;d2;ba0 1;ca;").supply(k));
        check.dueNone("locked", k -> Check.told("s0;d1;ba0 1;ka;").supply(k));
        check.dueNone("under load", k -> Check.told("s0;d1;ia0 1;").supply(k));
        check.dueNone("its earth locked", k -> Check.told("s0;d1;ba0 1;eb1;cb;kb;").supply(k));
    }

    private static void asThingsAre() {
        check.says("(As things are NOW; nothing is changed; by LAWFUL MOVES, LOCKS as they are; costs are those of all MOVES.)");
        SwitchBook x = Check.told("s0;d1;ba0 1;bb0 1;ec1;cb;");
        x.moves(1);
        x.lists(0);
        x.sees(0, 1);
        x.keep(0);
        x.type('x');
        String before = Portrait.of(x);
        for (int k = -1; k < 4; k++) {
            x.plan(7, 4, k);
            x.work(1, k);
            x.supply(k);
        }
        for (int by = 0; by <= 10; by++) x.odds(by, by % 2);
        check.due("nothing is changed", Portrait.of(x), before);
        check.dueRow("as things are now", k -> x.supply(k), 1, "0");
        x.locks(0);
        check.dueRow("locks as they are", k -> x.supply(k), 1, "1");
        x.moves(1);
        check.dueRow("as things are then", k -> x.supply(k), 0, "");
        x.locks(1);
        check.dueNone("both are locked", k -> x.work(1, k));
        x.undo();
        // The same switch twice costs twice.
        SwitchBook y = Check.told("s0;d1;ba0 1;ib0 1;");
        check.dueRow("to and fro", k -> y.plan(3, 2, k), 4, "010");
        y.prices(9, 1, 1);
        check.dueRow("to and fro at other prices", k -> y.plan(3, 2, k), 19, "010");
    }

    private static void oddsBeyond() {
        check.says("ODDS by x (0 .. 10)");
        for (SwitchBook x : new SwitchBook[] {new SwitchBook(), Check.told("s0;d1;ba0 1;ca;")}) {
            for (int what = 0; what < 2; what++) {
                int w = what;
                check.dueBadBeyond("odds", 0, 10, by -> x.odds(by, w));
            }
            for (int by = 0; by <= 10; by++) {
                int b = by;
                check.dueBadBeyond("odds, what", 0, 1, what -> x.odds(b, what));
            }
            check.due("both are beyond", x.odds(11, 2), SwitchBook.BAD);
        }
    }

    private static void oddsOfOne() {
        check.says("each CLOSED BREAKER opens by x of 10, for itself");
        int[][] due = {{1, 1}, {9, 10}, {4, 5}, {7, 10}, {3, 5}, {1, 2}, {2, 5}, {3, 10}, {1, 5}, {1, 10}, {0, 1}};
        SwitchBook x = Check.told("s0;d1;ba0 1;ca;");
        for (int by = 0; by <= 10; by++) fraction("one", x, by, due[by][0], due[by][1]);
        x.locks(0);
        for (int by = 0; by <= 10; by++) fraction("one, locked", x, by, due[by][0], due[by][1]);
        // Neither an isolator nor an open breaker opens.
        SwitchBook y = Check.told("s0;d2;ba0 1;ib1 2;bc0 2;ca;cb;");
        for (int by = 0; by <= 10; by++) fraction("one of three", y, by, due[by][0], due[by][1]);
        SwitchBook z = Check.told("s0;d1;ia0 1;ca;");
        for (int by = 0; by <= 10; by++) fraction("an isolator", z, by, 1, 1);
        // For itself: two behind each other, two beside each other.
        SwitchBook behind = Check.told("s0;d2;ba0 1;bb1 2;ca;cb;");
        fraction("behind each other", behind, 5, 1, 4);
        SwitchBook beside = Check.told("s0;d1;ba0 1;bb0 1;ca;cb;");
        fraction("beside each other", beside, 5, 3, 4);
    }

    private static void oddsOfMany() {
        check.says("ODDS: upper (what = 0), lower number (1), in least terms.");
        String beside = "n2;s0;d1;ba0 1;bb0 1;bc0 1;bd0 1;be0 1;bf0 1;bg0 1;bh0 1;ca;cb;cc;cd;ce;cf;cg;ch;";
        String behind = "n6;s0;d5;ba0 1;bb1 2;bc2 3;bd3 4;be4 5;ca;cb;cc;cd;ce;";
        SwitchBook x = Check.told(beside);
        SwitchBook y = Check.told(behind);
        BigInteger ten = BigInteger.TEN;
        for (int by = 0; by <= 10; by++) {
            BigInteger opens = BigInteger.valueOf(by);
            least("eight beside one another", x, by, ten.pow(8).subtract(opens.pow(8)), ten.pow(8));
            least("five behind one another", y, by, ten.subtract(opens).pow(5), ten.pow(5));
        }
        check.due("the greatest lower number", x.odds(1, 1), 100000000);
        check.due("the greatest upper number", x.odds(1, 0), 99999999);
    }

    private static void least(String call, SwitchBook x, int by, BigInteger upper, BigInteger lower) {
        BigInteger common = upper.gcd(lower);
        fraction(call, x, by, upper.divide(common).intValueExact(), lower.divide(common).intValueExact());
    }

    private static void oddsOfNone() {
        check.says("that all LOADS that are LIVE stay so: a fraction.");
        String[] texts = {"", "ba0 1;ca;", "s0;ba0 1;ca;", "d1;ba0 1;ca;", "s0;d1;ba0 1;", "s0;d0;ba0 1;ca;", "s0;s1;d1;ba0 1;ca;"};
        for (String text : texts) {
            SwitchBook x = Check.told(text);
            for (int by = 0; by <= 10; by++) fraction("'" + text + "'", x, by, 1, 1);
        }
    }

    private static void loadsThatAreLive() {
        check.says("all LOADS that are LIVE stay so");
        SwitchBook x = Check.told("n4;s0;d1;d2;d3;ba0 1;bb0 2;ca;cb;");
        fraction("both of the live ones, the dead one does not count", x, 1, 81, 100);
        x.moves(1);
        fraction("one of them", x, 1, 9, 10);
        x.moves(0);
        fraction("none of them", x, 1, 1, 1);
        // Live by either of two sources.
        fraction("two sources", Check.told("s0;s1;d2;ba0 2;bb1 2;ca;cb;"), 2, 24, 25);
    }

    private static void leastTerms() {
        check.says("in least terms");
        SwitchBook x = Check.told("s0;d1;ba0 1;ca;");
        fraction("nothing of one", x, 10, 0, 1);
        fraction("one of one", x, 0, 1, 1);
        fraction("a half", x, 5, 1, 2);
        SwitchBook y = Check.told("s0;d2;ba0 1;bb1 2;ca;cb;");
        fraction("16 of 25", y, 2, 16, 25);
        fraction("9 of 25", y, 4, 9, 25);
        fraction("1 of 25", y, 8, 1, 25);
    }

    private static void fraction(String call, SwitchBook x, int by, int upper, int lower) {
        check.due(call + ", upper by " + by, x.odds(by, 0), upper);
        check.due(call + ", lower by " + by, x.odds(by, 1), lower);
    }
}
