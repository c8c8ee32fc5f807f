/** The edges of what stands now (parts, what is lawful, promises 5 to 8), a test by sentence. */
public final class EdgeNowTest {
    private static final Check check = new Check("EdgeNowTest");
    private static final String CHAIN = "n6;ba0 1;bb1 2;bc2 3;id3 4;ie4 5;";
    private static final String EIGHT_EARTHS = "n6;ea0;eb1;ec2;ed3;ee4;ef5;eg0;eh5;";

    public static void main(String[] args) {
        devices();
        secondNode();
        names();
        nodes();
        whatNow();
        parts();
        live();
        earthed();
        loadsLive();
        openAndClosed();
        locked();
        underLoad();
        bothLive();
        oneLiveTheOtherWithALoad();
        notOfTwoParts();
        liveWouldBeEarthed();
        theFirstReason();
        lawfulBits();
        states();
        far();
        mayBeUndone();
        check.end();
    }

    private static void devices() {
        check.says("5 LOCKED (1, 0), 6 why it can not be MOVED (0: it is LAWFUL). BAD.");
        String eight = "n6;ba0 1;bb1 2;bc2 3;id3 4;ie4 5;ef0;eg1;eh5;";
        String[] texts = {"", "ba0 1;", eight};
        for (int i = 0; i < texts.length; i++) {
            SwitchBook x = Check.told(texts[i]);
            int last = new int[] {-1, 0, 7}[i];
            for (int what = 0; what < 7; what++) {
                int w = what;
                check.dueBadBeyond("device, what " + what, 0, last, k -> x.device(k, w));
            }
            for (int k = 0; k <= last; k++) {
                int d = k;
                check.dueBadBeyond("device " + k, 0, 6, what -> x.device(d, what));
            }
        }
        SwitchBook x = Check.told(eight);
        int[][] due = {{0, 'a', 0, 1, 0, 0, 0}, {2, 'h', 5, -9, 0, 0, 0}};
        for (int what = 0; what < 7; what++) {
            check.due("the first one, " + what, x.device(0, what), due[0][what]);
            check.due("the last one, " + what, x.device(7, what), due[1][what]);
        }
        check.due("both are beyond", x.device(8, 7), SwitchBook.BAD);
    }

    private static void secondNode() {
        check.says("2 its first NODE, 3 the second one (NONE: an EARTH)");
        SwitchBook x = Check.told("n6;ba5 0;ib0 5;ec0;ed5;");
        int[][] due = {{5, 0}, {0, 5}, {0, SwitchBook.NONE}, {5, SwitchBook.NONE}};
        for (int k = 0; k < due.length; k++) {
            check.due("first", x.device(k, 2), due[k][0]);
            check.due("second", x.device(k, 3), due[k][1]);
        }
    }

    private static void names() {
        check.says("The SWITCH of a NAME (a letter); NONE. BAD: no letter a .. z.");
        SwitchBook x = Check.told("ba0 1;ez0;");
        check.due("a", x.named('a'), 0);
        check.due("z", x.named('z'), 1);
        for (int letter = 'b'; letter <= 'y'; letter++) check.due("none", x.named(letter), SwitchBook.NONE);
        check.dueBadBeyond("named", 'a', 'z', x::named);
        check.dueBadBeyond("named, no switches", 'a', 'z', new SwitchBook()::named);
        SwitchBook eight = Check.told("n6;bb0 1;bd1 2;bf2 3;bh3 4;bj4 5;bl0 2;bn1 3;bp2 4;");
        for (int letter = 'a'; letter <= 'z'; letter++) {
            int place = "bdfhjlnp".indexOf(letter);
            check.due("of eight", eight.named(letter), place < 0 ? SwitchBook.NONE : place);
        }
        for (int no : new int[] {'A', 'Z', '0', ' ', ';', 0}) check.due("named " + no, x.named(no), SwitchBook.BAD);
    }

    private static void nodes() {
        check.says("3 whether it is a SOURCE (1, 0), 4 a LOAD (1, 0). BAD.");
        for (int n = 2; n <= 6; n++) {
            SwitchBook x = Check.told("n" + n + ";s" + (n - 1) + ";d0;");
            for (int what = 0; what < 5; what++) {
                int w = what;
                check.dueBadBeyond("node, what " + what, 0, n - 1, u -> x.node(u, w));
            }
            for (int u = 0; u < n; u++) {
                int v = u;
                check.dueBadBeyond("node " + u, 0, 4, what -> x.node(v, what));
                check.due("source", x.node(u, 3), u == n - 1 ? 1 : 0);
                check.due("load", x.node(u, 4), u == 0 ? 1 : 0);
            }
            check.due("both are beyond", x.node(n, 5), SwitchBook.BAD);
        }
    }

    private static void whatNow() {
        check.says("8 how many may be UNDONE. BAD.");
        check.dueBadBeyond("now, new", 0, 8, new SwitchBook()::now);
        check.dueBadBeyond("now", 0, 8, Check.told("s0;d1;ba0 1;ca;")::now);
    }

    private static void parts() {
        check.says("A PART: NODES that hang together by CLOSED BREAKERS and ISOLATORS.");
        SwitchBook x = Check.told(CHAIN);
        check.due("each by itself", x.now(5), 6);
        for (int u = 0; u < 6; u++) check.due("lowest", x.node(u, 2), u);
        // From the far end on: 5 hangs at 4, then at 3, .. at last all at 0.
        for (int k = 4; k >= 0; k--) {
            x.moves(k);
            check.due("parts", x.now(5), k + 1);
            for (int u = 0; u < 6; u++) check.due("lowest", x.node(u, 2), Math.min(u, k));
        }
        x.moves(2);
        check.due("two", x.now(5), 2);
        check.due("lowest of 2", x.node(2, 2), 0);
        check.due("lowest of 3", x.node(3, 2), 3);
        check.due("two nodes, apart", Check.told("n2;ba0 1;").now(5), 2);
        check.due("two nodes, together", Check.told("n2;ba0 1;ca;").now(5), 1);
        check.due("earths join nothing", Check.told("ea0;eb1;ca;cb;").now(5), 3);
        check.due("two ways are one", Check.told("ba0 1;ib0 1;ca;cb;").now(5), 2);
    }

    private static void live() {
        check.says("A PART with a SOURCE is LIVE, its NODES, too; others are DEAD.");
        check.due("no sources", Check.told("n6;ba0 1;ca;").now(1), 0);
        check.due("all sources", Check.told("n6;s0;s1;s2;s3;s4;s5;").now(1), 63);
        for (int u = 0; u < 6; u++) {
            SwitchBook x = Check.told("n6;s" + u + ";");
            check.due("one source", x.now(1), 1 << u);
            for (int v = 0; v < 6; v++) check.due("live", x.node(v, 0), v == u ? 1 : 0);
            check.due("one source for all", Check.told(CHAIN + "s" + u + ";ca;cb;cc;cd;ce;").now(1), 63);
        }
        check.due("up to what is open", Check.told(CHAIN + "s0;ca;cb;cd;ce;").now(1), 7);
        check.due("from the other side", Check.told(CHAIN + "s5;ca;cb;cd;ce;").now(1), 56);
        check.due("both", Check.told(CHAIN + "s0;s5;ca;ce;").now(1), 51);
    }

    private static void earthed() {
        check.says("A PART with a CLOSED EARTH is EARTHED.");
        check.due("none", Check.told(EIGHT_EARTHS).now(2), 0);
        check.due("all", Check.told(EIGHT_EARTHS + "ca;cb;cc;cd;ce;cf;").now(2), 63);
        for (int u = 0; u < 6; u++) {
            SwitchBook x = Check.told("n6;ea" + u + ";ca;");
            check.due("one", x.now(2), 1 << u);
            for (int v = 0; v < 6; v++) check.due("earthed", x.node(v, 1), v == u ? 1 : 0);
            check.due("one for all", Check.told(CHAIN + "ez" + u + ";ca;cb;cc;cd;ce;cz;").now(2), 63);
            check.due("open", Check.told(CHAIN + "ez" + u + ";ca;cb;cc;cd;ce;").now(2), 0);
        }
        SwitchBook x = Check.told(EIGHT_EARTHS + "ca;cg;");
        x.moves(0);
        check.due("by the other one yet", x.now(2), 1);
        x.moves(6);
        check.due("by none any more", x.now(2), 0);
    }

    private static void loadsLive() {
        check.says("3 LOADS that are LIVE (bits)");
        check.due("no loads", Check.told("s0;s1;s2;").now(3), 0);
        check.due("no sources", Check.told("d0;d1;d2;").now(3), 0);
        check.due("all", Check.told("n6;s0;s1;s2;s3;s4;s5;d0;d1;d2;d3;d4;d5;").now(3), 63);
        check.due("the last one", Check.told("n6;d0;d5;s5;").now(3), 32);
    }

    private static void openAndClosed() {
        check.says("It is LAWFUL to MOVE a SWITCH (OPEN becomes CLOSED, CLOSED becomes OPEN)");
        for (String text : new String[] {"ba0 1;", "ia0 1;", "ea0;"}) {
            SwitchBook x = Check.told(text);
            check.due("closed", x.moves(0), 1);
            check.due("open", x.moves(0), 0);
            check.due("closed", x.moves(0), 1);
        }
    }

    private static void locked() {
        check.says("the first of these: 1 it is LOCKED;");
        for (String text : new String[] {"ba0 1;", "ia0 1;", "ea0;"}) {
            for (String closed : new String[] {"", "ca;"}) {
                why(text + closed + "ka;", 'a', 1);
                why(text + closed, 'a', 0);
                why(text + "bz1 2;kz;" + closed, 'a', 0);
            }
        }
    }

    private static void underLoad() {
        check.says("2 it is an ISOLATOR between U and V");
        // The same places with a breaker instead.
        for (String net : new String[] {"s0;s1;#a0 1;", "s0;d1;#a0 1;", "s0;d1;#a1 0;"}) {
            for (String closed : new String[] {"", "ca;"}) {
                why(net.replace('#', 'i') + closed, 'a', 2);
                why(net.replace('#', 'b') + closed, 'a', 0);
            }
        }
    }

    private static void bothLive() {
        check.says("and, were it OPEN, they would be of two PARTS both of which are LIVE");
        for (String closed : new String[] {"", "ca;"}) {
            why("s0;s1;ia0 1;" + closed, 'a', 2);
            why("s0;s1;ia1 0;" + closed, 'a', 2);
            for (String loads : new String[] {"d0;", "d1;", "d0;d1;"}) {
                why("s0;s1;ia0 1;" + loads + closed, 'a', 2);
                why("s0;s1;ia1 0;" + loads + closed, 'a', 2);
            }
            why("s0;ia0 1;" + closed, 'a', 0);
            why("s1;ia0 1;" + closed, 'a', 0);
            why("ia0 1;" + closed, 'a', 0);
            // Live from afar.
            why("n4;s0;s3;bx0 1;by2 3;ia1 2;cx;cy;" + closed, 'a', 2);
            why("n4;s0;s3;bx0 1;by2 3;ia1 2;cx;" + closed, 'a', 0);
            why("n4;s0;s3;bx0 1;by2 3;ia1 2;cy;" + closed, 'a', 0);
            why("n4;s0;s3;bx0 1;by2 3;ia1 2;" + closed, 'a', 0);
        }
    }

    private static void oneLiveTheOtherWithALoad() {
        check.says("or one LIVE, and the other one with a LOAD;");
        for (String closed : new String[] {"", "ca;"}) {
            why("s0;d1;ia0 1;" + closed, 'a', 2);
            why("s1;d0;ia0 1;" + closed, 'a', 2);
            // A load on the live side alone, both sides dead, a load elsewhere.
            why("s0;d0;ia0 1;" + closed, 'a', 0);
            why("s1;d1;ia0 1;" + closed, 'a', 0);
            why("d0;d1;ia0 1;" + closed, 'a', 0);
            why("s2;d0;d1;ia0 1;" + closed, 'a', 0);
            why("s0;d2;ia0 1;" + closed, 'a', 0);
            // A load farther off, its way closed or open; an isolator is a way as well.
            for (char way : new char[] {'b', 'i'}) {
                why("s0;d2;" + way + "x1 2;ia0 1;cx;" + closed, 'a', 2);
                why("s0;d2;" + way + "x1 2;ia0 1;" + closed, 'a', 0);
                why("s2;d1;" + way + "x0 2;ia0 1;cx;" + closed, 'a', 2);
                why("s2;d1;" + way + "x0 2;ia0 1;" + closed, 'a', 0);
            }
        }
    }

    private static void notOfTwoParts() {
        check.says("they would be of two PARTS");
        for (String closed : new String[] {"", "ca;"}) {
            for (char way : new char[] {'b', 'i'}) {
                why("s0;d1;" + way + "x0 1;ia0 1;cx;" + closed, 'a', 0);
                why("s0;d1;" + way + "x0 1;ia0 1;" + closed, 'a', 2);
                why("s0;s1;" + way + "x0 1;ia1 0;cx;" + closed, 'a', 0);
                why("s0;s1;" + way + "x0 2;by2 1;ia1 0;cx;cy;" + closed, 'a', 0);
                why("s0;s1;" + way + "x0 2;by2 1;ia1 0;cy;" + closed, 'a', 2);
            }
        }
    }

    private static void liveWouldBeEarthed() {
        check.says("3 something LIVE would be EARTHED then.");
        why("s0;ea0;", 'a', 3);
        why("s0;ea1;", 'a', 0);
        why("s0;ea1;ca;", 'a', 0);
        why("ea0;", 'a', 0);
        why("n6;s5;ea5;", 'a', 3);
        why("s0;bx0 1;ea1;cx;", 'a', 3);
        why("s0;ix0 1;ea1;cx;", 'a', 3);
        why("s0;bx0 1;ea1;", 'a', 0);
        why("s0;ba0 1;ex1;cx;", 'a', 3);
        why("s0;ba0 1;ex1;", 'a', 0);
        why("s0;ba1 0;by1 2;ex2;cx;cy;", 'a', 3);
        why("s0;ba1 0;by1 2;ex2;cx;", 'a', 0);
        why("s0;ia0 1;ex1;cx;", 'a', 3);
        why("s0;ia0 1;ex1;", 'a', 0);
        // Opening brings nothing live to an earth; other earths closed elsewhere don't matter.
        why("s0;ba0 1;ex2;ca;cx;", 'a', 0);
        why("s0;ea1;eb2;cb;", 'a', 0);
    }

    private static void theFirstReason() {
        check.says("unless, the first of these:");
        // All three: an isolator from what is live to a load that is earthed, locked.
        why("s0;d1;ia0 1;ex1;cx;ka;", 'a', 1);
        why("s0;d1;ia0 1;ex1;cx;", 'a', 2);
        why("s0;ia0 1;ex1;cx;", 'a', 3);
        why("s0;ia0 1;ex1;cx;ka;", 'a', 1);
        why("s0;d1;ia0 1;ka;", 'a', 1);
        why("s0;ea0;ka;", 'a', 1);
        why("s0;ba0 1;ex1;cx;ka;", 'a', 1);
    }

    private static void why(String text, char name, int due) {
        SwitchBook x = Check.told(text);
        int k = x.named(name);
        int closed = x.now(0);
        check.due("why of " + name + " in '" + text + "'", x.device(k, 6), due);
        check.due("bit of " + name + " in '" + text + "'", x.now(4) >> k & 1, due == 0 ? 1 : 0);
        check.due("moves of " + name + " in '" + text + "'", x.moves(k), due == 0 ? closed ^ 1 << k : SwitchBook.STATE);
    }

    private static void lawfulBits() {
        check.says("4 SWITCHES that it is LAWFUL to MOVE (bits)");
        check.due("no switches", new SwitchBook().now(4), 0);
        check.due("all eight", Check.told(EIGHT_EARTHS).now(4), 255);
        check.due("none of eight", Check.told(EIGHT_EARTHS + "ka;kb;kc;kd;ke;kf;kg;kh;").now(4), 0);
        check.due("the last of eight", Check.told(EIGHT_EARTHS + "ka;kb;kc;kd;ke;kf;kg;").now(4), 128);
        check.due("the first of eight", Check.told(EIGHT_EARTHS + "kb;kc;kd;ke;kf;kg;kh;").now(4), 1);
    }

    private static void states() {
        check.says("STATES: how many can be come to (this one, too)");
        check.due("no switches", new SwitchBook().now(6), 1);
        check.due("one", Check.told("ba0 1;").now(6), 2);
        check.due("one, locked", Check.told("ba0 1;ka;").now(6), 1);
        check.due("one that can't be moved", Check.told("s0;ea0;").now(6), 1);
        check.due("all of eight", Check.told(EIGHT_EARTHS).now(6), 256);
        check.due("all of eight, from another one", Check.told(EIGHT_EARTHS + "ca;ch;").now(6), 256);
        check.due("eight, one locked", Check.told(EIGHT_EARTHS + "kh;").now(6), 128);
        check.due("eight, all locked", Check.told(EIGHT_EARTHS + "ka;kb;kc;kd;ke;kf;kg;kh;").now(6), 1);
        // Both closed alone is not sound.
        check.due("a breaker and an earth behind it", Check.told("s0;ba0 1;eb1;").now(6), 3);
        // The isolator is held for good: what lies beyond it can't be come to.
        check.due("an isolator under load", Check.told("s0;d1;ia0 1;").now(6), 1);
        check.due("the same, closed", Check.told("s0;d1;ia0 1;ca;").now(6), 1);
        check.due("the same beside a breaker", Check.told("s0;d1;bb0 1;ia0 1;").now(6), 4);
    }

    private static void far() {
        check.says("FAR: what the dearest of them costs at the cheapest.");
        check.due("no switches", new SwitchBook().now(7), 0);
        check.due("all locked", Check.told("ba0 1;ib1 2;ka;kb;").now(7), 0);
        check.due("a breaker", Check.told("ba0 1;").now(7), 1);
        check.due("an isolator", Check.told("ia0 1;").now(7), 2);
        check.due("an earth", Check.told("ea0;").now(7), 3);
        check.due("that nothing is closed", Check.told("ba0 1;ib1 2;ca;cb;").now(7), 3);
        check.due("that all is closed", Check.told("ba0 1;ib1 2;").now(7), 3);
        SwitchBook x = Check.told(EIGHT_EARTHS);
        check.due("eight earths", x.now(7), 24);
        x.prices(1, 1, 9);
        check.due("eight at the highest price", x.now(7), 72);
        x.prices(9, 9, 1);
        check.due("eight at the lowest price", x.now(7), 8);
        // Dearer than all switches once: the breaker goes to and fro so that the isolator may be moved.
        SwitchBook y = Check.told("s0;d1;ba0 1;ib0 1;");
        check.due("the isolator alone: the breaker, the isolator, the breaker", y.now(7), 4);
        y.prices(9, 1, 1);
        check.due("the same by other prices", y.now(7), 19);
    }

    private static void mayBeUndone() {
        check.says("8 how many may be UNDONE.");
        SwitchBook x = Check.told("ba0 1;");
        for (int i = 0; i < 14; i++) {
            check.due("may be undone", x.now(8), Math.min(i, 10));
            x.moves(0);
        }
    }
}
