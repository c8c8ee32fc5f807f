/** Promises 1 to 8: a new object, the text, and what is told of switches, nodes and all. */
public final class BookTest {
    private static final Check check = new Check("BookTest");

    public static void main(String[] args) {
        newObject();
        letters();
        texts();
        faults();
        faultsOfSwitches();
        aRefusedTextChangesNothing();
        aTextTellsAllAnew();
        devices();
        reasons();
        names();
        nodes();
        whatIsNow();
        check.end();
    }

    private static void newObject() {
        SwitchBook x = new SwitchBook();
        int[] counts = {3, 0, 0, 0, 0, 1, 2, 3};
        for (int what = 0; what < counts.length; what++) check.due("new: count " + what, x.count(what), counts[what]);
        int[] nows = {0, 0, 0, 0, 0, 3, 1, 0, 0};
        for (int what = 0; what < nows.length; what++) check.due("new: now " + what, x.now(what), nows[what]);
        check.due("new: device", x.device(0, 0), SwitchBook.BAD);
        check.due("new: node 2", x.node(2, 2), 2);
        check.due("new: node 3", x.node(3, 2), SwitchBook.BAD);
        check.due("new: sources", x.node(0, 3) + x.node(1, 3) + x.node(2, 3), 0);
        check.due("new: loads", x.node(0, 4) + x.node(1, 4) + x.node(2, 4), 0);
        check.due("new: named", x.named('a'), SwitchBook.NONE);
        check.due("new: back", x.back(0), SwitchBook.STATE);
        check.due("new: back", x.back(1), SwitchBook.STATE);
    }

    private static void letters() {
        SwitchBook x = new SwitchBook();
        check.due("type(-1)", x.type(-1), SwitchBook.BAD);
        check.due("type(256)", x.type(256), SwitchBook.BAD);
        check.due("type(min)", x.type(Integer.MIN_VALUE), SwitchBook.BAD);
        check.due("type(max)", x.type(Integer.MAX_VALUE), SwitchBook.BAD);
        check.due("clear of nothing", x.clear(), 0);
        check.due("type(0)", x.type(0), 1);
        check.due("type(255)", x.type(255), 2);
        check.due("count 4", x.count(4), 2);
        check.due("clear", x.clear(), 2);
        check.due("clear again", x.clear(), 0);
        for (int i = 1; i <= 120; i++) check.due("type", x.type(' '), i);
        check.due("the 121st", x.type(' '), SwitchBook.FULL);
        check.due("BAD is ahead of FULL", x.type(256), SwitchBook.BAD);
        check.due("count 4", x.count(4), 120);
        check.due("book of blanks", x.book(), 0);
        check.due("count 4 behind book", x.count(4), 0);
        check.due("type behind book", x.type(';'), 1);
    }

    private static void texts() {
        tells("", 0);
        tells("    ", 0);
        tells("n2;", 1);
        tells("n6;", 1);
        tells("  n  6  ;  ", 1);
        tells("s2;", 1);
        tells("n6;s5;d5;", 3);
        tells("s0;d0;s1;d1;s2;d2;", 6);
        tells("bn0 1;", 1);
        tells("bb0 1;ii1 0;ee2;", 3);
        tells("b z 2 0 ; c z ; k z ;", 3);
        tells("kz;", -11);
        tells("bz0 1;kz;cz;", 3);
        tells("ba0 1;bb0 1;bc0 1;bd0 1;ie0 1;if0 1;eg0;eh0;", 8);
        tells("ba0 1;bb0 1;ca;cb;ka;kb;", 6);
        // Nothing is live, so anything may be earthed.
        tells("ba0 1;ee0;ef1;ca;ce;cf;", 6);
        // What is live is apart from what is earthed.
        tells("s0;ba0 1;ee1;ce;", 4);
    }

    private static void tells(String text, int due) {
        SwitchBook x = new SwitchBook();
        check.due("book of '" + text + "'", Check.tell(x, text), due);
        check.due("letters behind book of '" + text + "'", x.count(4), due < 0 ? text.length() : 0);
    }

    private static void faults() {
        tells(";", -10);
        tells("  ;", -12);
        tells("0", -10);
        tells("x0;", -10);
        tells("S0;", -10);
        tells("s", -11);
        tells("s ", -12);
        tells("s0", -12);
        tells("s0  ", -14);
        tells("s0;;", -13);
        tells("s;", -11);
        tells("sa;", -11);
        tells("s0 0;", -13);
        tells("s00;", -11);
        tells("s01;", -11);
        tells("s100;", -11);
        tells("s4294967296;", -11);
        tells("s-1;", -11);
        tells("s\t0;", -11);
        tells("s0\n;", -12);
        tells("s0;\0", -13);
        tells("s0;\u00ff", -13);
        tells("s10;", -11);
        tells("s19;", -11);
        tells("s09;", -11);
        tells("s99;", -11);
        tells("s3;", -11);
        tells("n4;s4;", -14);
        tells("n4;s3;s3;", -17);
        tells("d3;", -11);
        tells("d2;d2;", -14);
        tells("n0;", -11);
        tells("n1;", -11);
        tells("n7;", -11);
        tells("n02;", -11);
        tells("n34;", -11);
        tells("n3", -12);
        tells("n", -11);
        tells("nn;", -11);
        tells("n2;n2;", -13);
        tells("s0;n4;", -13);
        // The first token that can't stand is told, not the first strange letter.
        tells("s9;A", -11);
        tells("s0;s0;100", -14);
    }

    private static void faultsOfSwitches() {
        tells("b", -11);
        tells("ba", -12);
        tells("ba0", -13);
        tells("ba0 1", -15);
        tells("b0 1;", -11);
        tells("b;", -11);
        tells("ba;", -12);
        tells("ba0;", -13);
        tells("ba3 0;", -12);
        tells("ba0 3;", -14);
        tells("ba1 1;", -14);
        tells("ia1 1;", -14);
        tells("ba01;", -12);
        tells("ba0 1 2;", -16);
        tells("ea0 1;", -14);
        tells("ea3;", -12);
        tells("ea;", -12);
        tells("ba0 1;ea0;", -17);
        tells("ba0 1;ba0 1;", -17);
        tells("ca;", -11);
        tells("ka;", -11);
        tells("ca;ba0 1;", -11);
        tells("ba0 1;cb;", -17);
        tells("ba0 1;c;", -17);
        tells("ba0 1;c0;", -17);
        tells("ba0 1;ca;ca;", -20);
        tells("ba0 1;ka;ka;", -20);
        String eight = "ba0 1;bb0 1;bc0 1;bd0 1;ie0 1;if0 1;eg0;eh0;";
        tells(eight + "bi0 1;", -10 - eight.length());
        tells(eight + "ii0 1;", -10 - eight.length());
        tells(eight + " ei0;", -11 - eight.length());
        tells(eight + "b", -10 - eight.length());
        tells(eight + "ca;s0;", 10);
        tells("s0;ea0;ca;", -20);
        tells("s0;ea0;ca;  ", -22);
        tells("s0;ba0 2;eb2;cb;ca;", -29);
        tells("s0;ia0 2;eb2;ca;cb;", -29);
        tells("s0;ba0 2;eb2;cb;ca;x", -29);
        tells("s0;ba0 2;eb2;cb;ca;c", -30);
    }

    private static void aRefusedTextChangesNothing() {
        SwitchBook x = Check.told("n4;s0;d1;ba0 1;eb2;");
        x.moves(0);
        x.keep(1);
        x.lists(1);
        x.sees(1, 1);
        for (String text : new String[] {"n5;s1;ez1;cz", "n5;s1;ez1;cz;"}) {
            check.due("a fault", Check.tell(x, text), -10 - text.length());
            check.due("the text stays", x.clear(), text.length());
            int[] counts = {4, 2, 1, 1, 0};
            for (int what = 0; what < counts.length; what++) check.due("refused: count " + what, x.count(what), counts[what]);
            check.due("refused: closed", x.now(0), 1);
            check.due("refused: live", x.now(1), 3);
            check.due("refused: may be undone", x.now(8), 1);
            check.due("refused: name", x.device(1, 1), 'b');
            check.due("refused: states", x.now(6), 4);
        }
        check.due("refused: image", x.back(1), 1);
    }

    private static void aTextTellsAllAnew() {
        SwitchBook x = Check.told("n4;s0;d1;ba0 1;eb2;ka;");
        x.locks(0);
        x.moves(0);
        x.prices(4, 5, 6);
        x.keep(0);
        x.keep(1);
        x.lists(0);
        x.sees(0, 1);
        check.due("book", Check.tell(x, "n5;s4;bx0 1;cx;kx;"), 5);
        int[] counts = {5, 1, 0, 0, 0, 1, 2, 3};
        for (int what = 0; what < counts.length; what++) check.due("anew: count " + what, x.count(what), counts[what]);
        check.due("anew: closed", x.now(0), 1);
        check.due("anew: live", x.now(1), 16);
        check.due("anew: may be undone", x.now(8), 0);
        check.due("anew: loads", x.node(1, 4), 0);
        check.due("anew: locked", x.device(0, 5), 1);
        check.due("anew: image 0", x.back(0), SwitchBook.STATE);
        check.due("anew: image 1", x.back(1), SwitchBook.STATE);
        check.due("anew: undo", x.undo(), SwitchBook.STATE);
        check.due("book of nothing", x.book(), 0);
        check.due("nothing: nodes", x.count(0), 3);
        check.due("nothing: switches", x.count(1), 0);
        check.due("nothing: live", x.now(1), 0);
        check.due("nothing: closed", x.now(0), 0);
    }

    private static void devices() {
        // Told in another order than they are numbered: by kinds, then by names.
        SwitchBook x = Check.told("n4;ez3;ea2;iy2 1;ib0 3;bx3 2;bc1 0;cz;cc;ky;kc;");
        int[][] due = {
            {0, 'c', 1, 0, 1, 1}, {0, 'x', 3, 2, 0, 0}, {1, 'b', 0, 3, 0, 0},
            {1, 'y', 2, 1, 0, 1}, {2, 'a', 2, -9, 0, 0}, {2, 'z', 3, -9, 1, 0}};
        for (int k = 0; k < due.length; k++) {
            for (int what = 0; what < 6; what++) check.due("device " + k + " " + what, x.device(k, what), due[k][what]);
        }
        for (int[] bad : new int[][] {{-1, 0}, {6, 0}, {7, 0}, {0, -1}, {0, 7}, {Integer.MAX_VALUE, 0}, {0, Integer.MIN_VALUE}}) {
            check.due("device " + bad[0] + " " + bad[1], x.device(bad[0], bad[1]), SwitchBook.BAD);
        }
    }

    private static void reasons() {
        // An isolator between a live part and a dead one with a load, one without, and two live parts.
        why("s0;d1;ia0 1;", 0, 2);
        why("s0;d1;ia1 0;", 0, 2);
        why("s0;d1;ia0 1;ca;", 0, 2);
        why("s0;d1;ia1 0;ca;", 0, 2);
        why("s0;ia0 1;", 0, 0);
        why("s0;ia0 1;ca;", 0, 0);
        why("s0;d0;ia0 1;", 0, 0);
        why("s0;s1;ia0 1;", 0, 2);
        why("s0;s1;ia0 1;ca;", 0, 2);
        why("d0;d1;ia0 1;ca;", 0, 0);
        // A load farther off in the part counts, one behind an open breaker does not.
        why("s0;d2;bb1 2;ia0 1;cb;", 1, 2);
        why("s0;d2;bb1 2;ia0 1;", 1, 0);
        // Beside another closed way it may be moved under load.
        why("s0;d1;bb0 1;ia0 1;cb;", 1, 0);
        why("s0;d1;ib0 1;ia0 1;cb;ca;", 0, 0);
        why("s0;s1;bb0 1;ia0 1;cb;ca;", 1, 0);
        // A breaker may be moved under load.
        why("s0;d1;ba0 1;", 0, 0);
        why("s0;d1;ba0 1;ca;", 0, 0);
        // Nothing live is earthed, by an earth, a breaker, an isolator.
        why("s0;ea0;", 0, 3);
        why("s0;ea1;", 0, 0);
        why("s0;ea1;bb0 1;cb;", 1, 3);
        why("s0;ea1;bb0 1;ca;", 0, 3);
        why("s0;ea1;bb0 1;ca;", 1, 0);
        why("s0;ia0 1;eb1;cb;", 0, 3);
        why("s0;s1;ea2;ib1 2;ca;", 0, 3);
        // The first of the reasons is told.
        why("s0;d1;ia0 1;eb1;cb;", 0, 2);
        why("s0;d1;ia0 1;ka;", 0, 1);
        why("s0;ea0;ka;", 0, 1);
        why("ba0 1;ka;", 0, 1);
        why("ba0 1;ka;ca;", 0, 1);
    }

    private static void why(String text, int k, int due) {
        SwitchBook x = Check.told(text);
        check.due("why not " + k + " of '" + text + "'", x.device(k, 6), due);
        check.due("lawful " + k + " of '" + text + "'", x.now(4) >> k & 1, due == 0 ? 1 : 0);
        int closed = x.now(0);
        check.due("moves " + k + " of '" + text + "'", x.moves(k), due == 0 ? closed ^ 1 << k : SwitchBook.STATE);
        check.due("closed then", x.now(0), due == 0 ? closed ^ 1 << k : closed);
    }

    private static void names() {
        SwitchBook x = Check.told("bz0 1;ba0 1;em2;");
        check.due("named a", x.named('a'), 0);
        check.due("named z", x.named('z'), 1);
        check.due("named m", x.named('m'), 2);
        check.due("named b", x.named('b'), SwitchBook.NONE);
        // Names of earlier texts are gone.
        Check.tell(x, "ba0 1;by0 1;ew2;");
        Check.tell(x, "bq0 1;");
        check.due("a name told earlier, z", x.named('z'), SwitchBook.NONE);
        check.due("a name told earlier, y", x.named('y'), SwitchBook.NONE);
        check.due("the name told last", x.named('q'), 0);
        for (int bad : new int[] {96, 123, 'A', 0, -1, 353, Integer.MIN_VALUE}) check.due("named " + bad, x.named(bad), SwitchBook.BAD);
    }

    private static void nodes() {
        // 0 source - 3 load; 1 earthed - 4; 2; 5 load.
        SwitchBook x = Check.told("n6;s0;d3;d5;ba0 3;ib4 1;ec1;bd2 5;ca;cb;cc;");
        int[][] due = {
            {1, 0, 0, 1, 0}, {0, 1, 1, 0, 0}, {0, 0, 2, 0, 0}, {1, 0, 0, 0, 1}, {0, 1, 1, 0, 0}, {0, 0, 5, 0, 1}};
        for (int u = 0; u < due.length; u++) {
            for (int what = 0; what < 5; what++) check.due("node " + u + " " + what, x.node(u, what), due[u][what]);
        }
        for (int[] bad : new int[][] {{-1, 0}, {6, 0}, {0, -1}, {0, 5}, {Integer.MAX_VALUE, 2}, {2, Integer.MAX_VALUE}}) {
            check.due("node " + bad[0] + " " + bad[1], x.node(bad[0], bad[1]), SwitchBook.BAD);
        }
        // A chain told against the order of its nodes.
        x = Check.told("n6;ba5 4;bb4 3;bc3 2;bd2 1;ca;cb;cc;cd;");
        for (int u = 1; u < 6; u++) check.due("lowest of " + u, x.node(u, 2), 1);
        check.due("parts", x.now(5), 2);
    }

    private static void whatIsNow() {
        SwitchBook x = Check.told("n6;s0;d3;d5;ba0 3;ib4 1;ec1;bd2 5;ca;cb;cc;");
        // a, d, b, c: 0, 1, 2, 3.
        int[] due = {13, 9, 18, 8, 15, 4, 16, 7, 0};
        for (int what = 0; what < due.length; what++) check.due("now " + what, x.now(what), due[what]);
        check.due("now -1", x.now(-1), SwitchBook.BAD);
        check.due("now 9", x.now(9), SwitchBook.BAD);
        check.due("now max", x.now(Integer.MAX_VALUE), SwitchBook.BAD);
        x.prices(9, 8, 7);
        check.due("far by prices", x.now(7), 33);
        x.locks(0);
        check.due("states, one locked", x.now(6), 8);
        check.due("far, one locked", x.now(7), 24);
        check.due("lawful, one locked", x.now(4), 14);
        check.due("may be undone", x.now(8), 2);
        // Nothing; the breaker; both; then the isolator alone; the earth alone.
        x = Check.told("s0;d1;ba0 1;ic0 1;ee1;");
        check.due("states", x.now(6), 5);
        // The isolator alone: the breaker closed (1), the isolator (2), the breaker opened (1); the earth is 3.
        check.due("far", x.now(7), 4);
        check.due("far, that nothing is closed", Check.told("ba0 1;ca;").now(7), 1);
    }
}
