/** The edges of what a text may tell ('What it is', the first of the 'Terms', promises 1 to 4), a test by sentence. */
public final class EdgeTextTest {
    private static final Check check = new Check("EdgeTextTest");
    private static final String EIGHT = "ba0 1;bb0 1;bc0 1;id0 1;ie0 1;if0 1;eg0;eh0;";

    public static void main(String[] args) {
        calls();
        newObject();
        howManyNodes();
        threeNodesAtFirst();
        lastNode();
        eightSwitches();
        names();
        unlikeNodes();
        longestText();
        blanks();
        itemsAreEnded();
        nodesAreToldFirst();
        closedOnes();
        lockedOnes();
        toldOnce();
        anyOtherLetter();
        numbers();
        theFirstFault();
        endsTooEarly();
        liveAndEarthed();
        numberedByKinds();
        numberedByNames();
        letters();
        clear();
        items();
        emptyThen();
        readAnew();
        check.end();
    }

    private static void calls() {
        check.says("An object is used for at most 512 calls after it has been made; what later calls answer is free.");
        SwitchBook x = new SwitchBook();
        check.due("13 calls", Check.tell(x, "s0;d1;ba0 1;"), 3);
        for (int call = 14; call < 512; call++) check.due("call " + call, x.moves(0), 1 - call % 2);
        check.due("call 512", x.now(8), 10);
        // Later answers are free, but no call may throw.
        for (int call = 513; call < 1200; call++) {
            x.type('s');
            x.lists(0);
            x.sees(0, 1);
            x.moves(0);
            x.goes();
            x.book();
        }
    }

    private static void newObject() {
        check.says("As told; no SOURCES, LOADS, SWITCHES.");
        SwitchBook x = new SwitchBook();
        for (int u = 0; u < 3; u++) {
            check.due("no source", x.node(u, 3), 0);
            check.due("no load", x.node(u, 4), 0);
            check.due("dead", x.node(u, 0), 0);
            check.due("not earthed", x.node(u, 1), 0);
            check.due("a part by itself", x.node(u, 2), u);
        }
        int[] counts = {3, 0, 0, 0, 0, 1, 2, 3};
        for (int what = 0; what < counts.length; what++) check.due("count " + what, x.count(what), counts[what]);
        int[] nows = {0, 0, 0, 0, 0, 3, 1, 0, 0};
        for (int what = 0; what < nows.length; what++) check.due("now " + what, x.now(what), nows[what]);
        for (int letter = 'a'; letter <= 'z'; letter++) check.due("named", x.named(letter), SwitchBook.NONE);
        check.due("undo", x.undo(), SwitchBook.STATE);
        check.due("goes", x.goes(), SwitchBook.STATE);
        check.due("back 0", x.back(0), SwitchBook.STATE);
        check.due("back 1", x.back(1), SwitchBook.STATE);
        check.due("unseen", x.unseen(), 0);
        check.due("look", x.look(), SwitchBook.NONE);
        check.due("plan of none", x.plan(0, 0, -1), 0);
        check.due("supply of none", x.supply(-1), 0);
        check.due("work", x.work(2, -1), SwitchBook.NONE);
        check.due("odds, upper", x.odds(10, 0), 1);
        check.due("odds, lower", x.odds(10, 1), 1);
    }

    private static void howManyNodes() {
        check.says("1 NODES 0 .. as many as are told less 1 (2 ..");
        for (int n = 0; n <= 130; n++) {
            SwitchBook x = new SwitchBook();
            boolean stands = n >= 2 && n <= 6;
            check.due("n " + n, Check.tell(x, "n" + n + ";"), stands ? 1 : -11);
            check.due("nodes", x.count(0), stands ? n : 3);
            check.due("parts", x.now(5), stands ? n : 3);
        }
    }

    private static void threeNodesAtFirst() {
        check.says("6; 3 at first).");
        check.due("at first", new SwitchBook().count(0), 3);
        check.tells("s2;d2;", 2);
        check.faults("s^3;");
        check.faults("d^3;");
        SwitchBook x = Check.told("n6;s5;");
        check.due("six", x.count(0), 6);
        check.due("not told again", Check.tell(x, "s^3;".replace("^", "")), -11);
        x.clear();
        check.due("not told again", Check.tell(x, "s2;"), 1);
        check.due("three again", x.count(0), 3);
        x = Check.told("n2;s1;");
        check.due("nothing told", x.book(), 0);
        check.due("three again", x.count(0), 3);
    }

    private static void lastNode() {
        check.says("a NUMBER beyond what it may be");
        for (int n = 2; n <= 6; n++) {
            String head = "n" + n + ";";
            int last = n - 1;
            for (String item : new String[] {"s#;", "d#;", "ba# 0;", "ba0 #;", "ia# 0;", "ia0 #;", "ea#;"}) {
                int place = head.length() + item.indexOf('#');
                check.tells(head + item.replace("#", "" + last), 2);
                for (int beyond : new int[] {n, n + 1, 9, 10, 11, 32, 33, 64, 99}) {
                    check.tells(head + item.replace("#", "" + beyond), -10 - place);
                }
            }
            for (String item : new String[] {"s#;", "d#;", "ba# 1;", "ba1 #;", "ia# 1;", "ia1 #;", "ea#;"}) {
                check.tells(head + item.replace("#", "0"), 2);
            }
        }
    }

    private static void eightSwitches() {
        check.says("SWITCHES (8 at most)");
        check.due("none", Check.told("s0;").count(1), 0);
        check.due("one", Check.told("ba0 1;").count(1), 1);
        check.due("seven", Check.told(EIGHT.substring(0, EIGHT.length() - 4)).count(1), 7);
        check.due("eight", Check.told(EIGHT).count(1), 8);
        for (String item : new String[] {"b# 0 1;", "i#0 1;", "e#0;"}) {
            StringBuilder eight = new StringBuilder();
            for (int i = 0; i < 8; i++) eight.append(item.replace('#', (char) ('a' + i)));
            SwitchBook x = Check.told(eight.toString());
            check.due("eight of one kind", x.count(1), 8);
            check.due("the eighth", x.device(7, 1), 'h');
        }
        check.says("a ninth SWITCH");
        for (String ninth : new String[] {"bz0 1;", "iz0 1;", "ez0;"}) {
            check.faults(EIGHT + "^" + ninth);
            check.faults(EIGHT + "ka; ^" + ninth);
            // It can't stand from its first letter on, whatever follows.
            check.faults(EIGHT + "^" + ninth.charAt(0));
            check.faults(EIGHT + "^" + ninth.charAt(0) + "a0 0;");
        }
        check.tells(EIGHT + "ca;kh;s2;d2;", 12);
    }

    private static void names() {
        check.says("each with a NAME (a letter a .. z, each once)");
        String[] kinds = {"b#0 1;", "i#0 1;", "e#0;"};
        for (String kind : kinds) {
            for (char name = 'a'; name <= 'z'; name++) {
                SwitchBook x = Check.told(kind.replace('#', name));
                check.due("its name", x.device(0, 1), name);
                check.due("named", x.named(name), 0);
            }
            for (int no : new int[] {'a' - 1, 'z' + 1, 'A', 'Z', '0', '9', ';'}) {
                check.faults(kind.replace("#", "^" + (char) no));
            }
        }
        check.says("a NAME told already");
        for (String first : kinds) {
            for (String second : kinds) {
                for (char name : new char[] {'a', 'm', 'z'}) check.faults(first.replace('#', name) + second.replace("#", "^" + name));
                check.tells(first.replace('#', 'a') + second.replace('#', 'b'), 2);
            }
        }
        // Told already by an earlier text is not told already.
        SwitchBook x = Check.told("ba0 1;");
        check.due("told anew", Check.tell(x, "ea2;"), 1);
        check.due("its kind", x.device(0, 0), 2);
    }

    private static void unlikeNodes() {
        check.says("0 a BREAKER, 1 an ISOLATOR (between two unlike NODES), 2 an EARTH (of a NODE)");
        check.says("V that is U");
        for (int u = 0; u < 6; u++) {
            for (int v = 0; v < 6; v++) {
                String told = u == v ? u + " ^" + v : u + " " + v;
                for (char kind : new char[] {'b', 'i'}) {
                    String text = "n6;" + kind + "a" + told + ";";
                    if (u == v) check.faults(text);
                    else check.tells(text, 2);
                }
            }
            check.tells("n6;ea" + u + ";", 2);
            check.faults("n6;ea" + u + " ^" + (u + 1) % 6 + ";");
        }
        // Two switches may hang between the same two nodes, either way round.
        check.tells("ba0 1;bb0 1;ic1 0;id0 1;", 4);
    }

    private static void longestText() {
        check.says("They are a text (120 letters at most)");
        String text = "n6;s0;" + " ".repeat(120 - 12) + "ba0 5;";
        SwitchBook x = new SwitchBook();
        for (int i = 0; i < 120; i++) check.due("type", x.type(text.charAt(i)), i + 1);
        for (int letter : new int[] {';', 'x', ' ', 0, 255}) check.due("the 121st", x.type(letter), SwitchBook.FULL);
        check.due("120 letters", x.count(4), 120);
        check.due("book", x.book(), 3);
        check.due("its last letters", x.device(0, 3), 5);
        check.due("then there is room", x.type(' '), 1);
        // One letter less than full, the last one that is taken being the one that counts.
        x = new SwitchBook();
        for (int i = 0; i < 117; i++) x.type(' ');
        for (int i = 0; i < 4; i++) x.type("s2;;".charAt(i));
        check.due("the 121st is not there", x.book(), 1);
        check.due("the source", x.node(2, 3), 1);
        // A fault at the end of the longest text.
        for (int i = 0; i < 120; i++) x.type(i == 119 ? 's' : ' ');
        check.due("ends too early at 120", x.book(), -130);
        x.clear();
        for (int i = 0; i < 120; i++) x.type(i == 119 ? 'x' : ' ');
        check.due("a fault at 119", x.book(), -129);
        x.clear();
        for (int i = 0; i < 120; i++) x.type(i < 118 ? ' ' : "s0".charAt(i - 118));
        check.due("a number at the end of all", x.book(), -130);
    }

    private static void blanks() {
        check.says("told letter by letter, blanks (32) between TOKENS");
        check.tells("n4;s0;d3;ba0 1;ib1 2;ec3;ca;kb;", 8);
        check.tells("   n   4 ;  s 0 ; d 3  ; b  a  0  1 ; i b 1 2 ; e c 3 ;c a;k b ;   ", 8);
        for (int no : new int[] {0, 9, 10, 13, 31, 33, 160, 255}) {
            check.faults("^" + (char) no + "s0;");
            check.faults("s^" + (char) no + "0;");
            check.faults("s0^" + (char) no + ";");
            check.faults("s0;^" + (char) no);
        }
        // Numbers are told apart by blanks alone.
        check.faults("n6;ba^12;");
        check.faults("n6;ba1 2^ 3;".replace("^ ", " ^"));
        check.faults("n6;s1 ^2;");
        check.tells("", 0);
        check.tells(" ", 0);
        check.tells(" ".repeat(120), 0);
    }

    private static void itemsAreEnded() {
        check.says("ITEMS, each ended by ;");
        for (String item : new String[] {"n3", "s0", "d0", "bb0 1", "ib0 1", "eb0", "ca", "ka"}) {
            String head = item.startsWith("n") ? "" : "ba0 1;";
            check.tells(head + item + ";", head.isEmpty() ? 1 : 2);
            check.faults(head + item + "^");
            check.faults(head + item + " ^");
            check.faults(head + item + " ^s1;");
            check.faults(head + item + " ^7;");
            check.faults(head + item + ";^;");
            check.faults(head + item + "; ^; ");
            check.faults(head + item + ";^0");
            check.faults(head + item + "^,");
        }
        check.faults("^;");
        check.faults(" ^;");
        check.faults("^0;");
    }

    private static void nodesAreToldFirst() {
        check.says("n N (NODES; the first of all, if it is told)");
        check.tells("n4;s3;", 2);
        check.tells(" n 4 ; s 3 ;", 2);
        check.tells("s2;", 1);
        check.says("n behind another ITEM");
        check.faults("n4;^n4;");
        check.faults("s0;^n4;");
        check.faults("d0;^n4;");
        check.faults("ba0 1;^n4;");
        check.faults("ea0;  ^n4;");
        check.faults("s0;^n");
        // A switch may bear that name.
        check.tells("bn0 1;cn;kn;", 3);
    }

    private static void closedOnes() {
        check.says("OPEN all ; c X (one told ahead that is OPEN is CLOSED)");
        for (String kind : new String[] {"ba0 1;", "ia0 1;", "ea0;"}) {
            check.due("open", Check.told(kind).device(0, 4), 0);
            check.due("closed", Check.told(kind + "ca;").device(0, 4), 1);
            check.due("closed, not locked", Check.told(kind + "ca;").device(0, 5), 0);
            check.faults(kind + "ca;c^a;");
            check.faults(kind + "ca;ka;c^a;");
            check.faults(kind + "c^b;");
            check.faults("c^a;" + kind);
        }
        check.says("one that is none");
        check.faults("c^a;");
        check.faults(EIGHT + "c^i;");
        check.faults(EIGHT + "c^z;");
        check.faults("ba0 1;c^0;");
        check.faults("ba0 1;c^;");
        check.due("all eight", Check.told("ba0 1;bb0 1;bc0 1;id0 1;ie0 1;if0 1;eg0;eh0;ca;cb;cc;cd;ce;cf;cg;ch;").now(0), 255);
    }

    private static void lockedOnes() {
        check.says("k X (one told ahead is LOCKED)");
        for (String kind : new String[] {"ba0 1;", "ia0 1;", "ea0;"}) {
            check.due("not locked", Check.told(kind).device(0, 5), 0);
            check.due("locked", Check.told(kind + "ka;").device(0, 5), 1);
            check.due("locked, open", Check.told(kind + "ka;").device(0, 4), 0);
            check.due("locked ahead of closed", Check.told(kind + "ka;ca;").device(0, 4), 1);
            check.due("closed ahead of locked", Check.told(kind + "ca;ka;").device(0, 5), 1);
            check.faults(kind + "k^b;");
            check.faults("k^a;" + kind);
        }
        check.faults("k^a;");
        check.faults(EIGHT + "k^i;");
        check.faults("ba0 1;k^0;");
        check.faults("ba0 1;k^;");
    }

    private static void toldOnce() {
        check.says("Each SOURCE, LOAD, LOCK is told once at most.");
        for (int u = 0; u < 6; u++) {
            check.faults("n6;s" + u + ";s^" + u + ";");
            check.faults("n6;d" + u + ";d^" + u + ";");
            check.faults("n6;s" + u + ";d" + u + ";s^" + u + ";");
            check.faults("n6;d" + u + ";s" + u + ";d^" + u + ";");
            // One node may be both.
            SwitchBook x = Check.told("n6;s" + u + ";d" + u + ";");
            check.due("a source and a load", x.node(u, 3) + x.node(u, 4), 2);
        }
        check.tells("n6;s0;s1;s2;s3;s4;s5;d0;d1;d2;d3;d4;d5;", 13);
        check.says("what is told already");
        for (char name : new char[] {'a', 'z'}) {
            for (String kind : new String[] {"b#0 1;", "i#0 1;", "e#0;"}) {
                String told = kind.replace('#', name);
                check.faults(told + "k" + name + ";k^" + name + ";");
                check.faults(told + "k" + name + ";c" + name + ";k^" + name + ";");
            }
        }
        // Told already by an earlier text is not told already.
        SwitchBook x = Check.told("s0;d1;ba0 1;ca;ka;");
        check.due("told anew", Check.tell(x, "s0;d1;ba0 1;ca;ka;"), 5);
    }

    /** Each of the 256 letters where an item, a number, a name, a name told, or the end of an item is due. */
    private static void anyOtherLetter() {
        check.says("TOKENS are letters a .. z (each by itself), NUMBERS and ; .");
        check.says("of any other letter");
        for (int letter = 0; letter < 256; letter++) {
            char c = (char) letter;
            boolean blank = c == ' ';
            if (!blank) place("s0;", c, "nsdbieck".indexOf(c) >= 1 ? 4 : 3);
            place("", c, blank ? 0 : "nsdbieck".indexOf(c) >= 0 ? 1 : 0);
            place("s", c, blank || c >= '0' && c <= '2' ? 2 : 1);
            place("n", c, blank || c >= '2' && c <= '6' ? 2 : 1);
            place("b", c, blank || c >= 'a' && c <= 'z' ? 2 : 1);
            place("bq0 1;c", c, blank || c == 'q' ? 8 : 7);
            place("bq0 1;k", c, blank || c == 'q' ? 8 : 7);
            place("bq", c, blank || c >= '0' && c <= '2' ? 3 : 2);
            place("bq1 ", c, blank || c == '0' || c == '2' ? 5 : 4);
            // A number grows by a digit, and is too great then, from its first one on.
            if (c != ';') place("s2", c, blank ? 3 : c >= '0' && c <= '9' ? 1 : 2);
            if (c != ';') place("s2 ", c, blank ? 4 : 3);
        }
        check.tells(" ", 0);
        check.tells("s2;", 1);
    }

    private static void place(String head, char last, int due) {
        boolean nothing = (head + last).isBlank() && last == ' ';
        check.tells(head + last, nothing ? 0 : -10 - due);
    }

    private static void numbers() {
        check.says("a NUMBER above 99 or with a 0 ahead of others, that TOKEN's");
        String[] wrong = {"00", "01", "02", "03", "000", "001", "010", "099", "0100", "7", "10", "20", "98", "99", "100", "101",
            "102", "256", "258", "999", "1000", "65538", "2147483647", "2147483648", "2147483650", "4294967298",
            "18446744073709551618", "3".repeat(90), "0".repeat(90), "0".repeat(89) + "2"};
        for (String number : wrong) {
            check.faults("n^" + number + ";");
            check.faults("n6;s^" + number + ";");
            check.faults("n6;d ^" + number + ";");
            check.faults("n6;ba^" + number + " 1;");
            check.faults("n6;ba1 ^" + number + ";");
            check.faults("n6;ia1 ^" + number);
            check.faults("n6;ea^" + number + ";");
            // Where no number may stand.
            check.faults("^" + number);
            check.faults("b^" + number);
            check.faults("s2 ^" + number);
        }
        // A 0 by itself is a number.
        check.tells("s0;ba0 1;", 2);
    }

    private static void theFirstFault() {
        check.says("FAULT: the place of the first letter of the first TOKEN that can't stand there");
        check.faults("s^3;s4;");
        check.faults("s0;s^0;A");
        check.faults("s^9;100");
        check.faults("s0;^x;s0;s0");
        check.faults("s0;ba0 ^0;ca;c");
        check.faults("   s0 ; s   ^0 ;");
        check.faults("n3; ^100 ;");
        check.faults("ba^100 A;");
    }

    private static void endsTooEarly() {
        check.says("the text's length, if it ends too early");
        for (String text : new String[] {"n4;s0;d3;ba0 1;ib1 2;ec2;ca;kb;", " n 4 ; s 0 ; d 3 ; b a 0 1 ; i b 1 2 ; e c 2 ; c a ; k b ; "}) {
            int items = 0;
            for (int length = 0; length <= text.length(); length++) {
                String head = text.substring(0, length);
                if (head.endsWith(";")) items++;
                boolean whole = head.isBlank() || head.stripTrailing().endsWith(";");
                check.tells(head, whole ? items : -10 - length);
            }
        }
    }

    private static void liveAndEarthed() {
        check.says("or if, all else being right, something LIVE is EARTHED.");
        check.faults("s0;ea0;ca;^");
        check.faults("ea0;ca;s0;^");
        check.faults("s0;ea0;ca;   ^");
        check.faults("n6;s5;ea5;ca;^");
        check.faults("s0;ba0 1;eb1;ca;cb;^");
        check.faults("s0;ia0 1;eb1;ca;cb;^");
        check.faults("n6;s0;ba0 1;bb1 2;ic2 3;bd3 4;be4 5;ef5;ca;cb;cc;cd;ce;cf;^");
        check.faults("n6;s0;ba0 1;bb1 2;ic2 3;bd3 4;be4 5;ef5;kf;ca;cb;cc;cd;ce;cf;^");
        check.faults("n4;s0;s3;ea1;ca;eb3;cb;^");
        // One step less is right: an earth or a way that is open, no source.
        check.tells("s0;ea0;", 2);
        check.tells("s0;ea1;ca;", 3);
        check.tells("s0;ba0 1;eb1;ca;", 4);
        check.tells("s0;ba0 1;eb1;cb;", 4);
        check.tells("n6;s0;ba0 1;bb1 2;ic2 3;bd3 4;be4 5;ef5;ca;cb;cd;ce;cf;", 13);
        check.tells("d0;ba0 1;eb1;ca;cb;", 5);
        // All else not being right, the other fault is told, wherever it lies.
        check.faults("s0;ea0;ca;^x");
        check.faults("s0;ea0;ca;c^a;");
        check.faults("s0;ea0;ca;k^b;");
        check.faults("s0;ea0;ca;s^");
    }

    private static void numberedByKinds() {
        check.says("SWITCHES are numbered 0, 1, .. by KINDS");
        String[] items = {"bz0 1;", "im0 1;", "ea0;"};
        int[][] orders = {{0, 1, 2}, {0, 2, 1}, {1, 0, 2}, {1, 2, 0}, {2, 0, 1}, {2, 1, 0}};
        for (int[] o : orders) {
            SwitchBook x = Check.told(items[o[0]] + items[o[1]] + items[o[2]]);
            check.due("the breaker", x.named('z'), 0);
            check.due("the isolator", x.named('m'), 1);
            check.due("the earth", x.named('a'), 2);
            for (int k = 0; k < 3; k++) check.due("kind " + k, x.device(k, 0), k);
        }
    }

    private static void numberedByNames() {
        check.says("those of one KIND by NAMES.");
        for (String kind : new String[] {"b#0 1;", "i#0 1;", "e#0;"}) {
            StringBuilder text = new StringBuilder();
            for (char name : "zkaybxlm".toCharArray()) text.append(kind.replace('#', name));
            text.append("cz;ka;");
            SwitchBook x = Check.told(text.toString());
            for (int k = 0; k < 8; k++) check.due("name " + k, x.device(k, 1), "abklmxyz".charAt(k));
            check.due("what is told of one goes with it", x.now(0), 128);
            check.due("what is told of one goes with it", x.device(0, 5), 1);
        }
        SwitchBook x = Check.told("n6;ed5;ec4;if3 2;ia1 0;bh5 0;bb4 1;");
        int[][] due = {{'b', 4, 1}, {'h', 5, 0}, {'a', 1, 0}, {'f', 3, 2}, {'c', 4, -9}, {'d', 5, -9}};
        for (int k = 0; k < due.length; k++) {
            for (int i = 0; i < 3; i++) check.due("device " + k, x.device(k, i + 1), due[k][i]);
        }
    }

    private static void letters() {
        check.says("A letter (0 .. 255) comes to THE TEXT: how many it has. BAD; FULL.");
        SwitchBook x = new SwitchBook();
        for (int letter = 0; letter < 256; letter++) {
            check.due("type(" + letter + ")", x.type(letter), 1);
            check.due("clear", x.clear(), 1);
        }
        SwitchBook y = new SwitchBook();
        check.dueBadBeyond("type", 0, 255, y::type);
        check.due("nothing came", y.count(4), 0);
        for (int i = 1; i <= 120; i++) check.due("type", y.type(255), i);
        check.due("FULL", y.type(0), SwitchBook.FULL);
        check.due("FULL", y.type(255), SwitchBook.FULL);
        check.dueBadBeyond("BAD is ahead of FULL: type", 0, 255, y::type);
        check.due("120 stay", y.count(4), 120);
    }

    private static void clear() {
        check.says("THE TEXT is empty: how many letters it had.");
        SwitchBook x = new SwitchBook();
        check.due("none", x.clear(), 0);
        x.type('x');
        check.due("one", x.clear(), 1);
        check.due("none again", x.clear(), 0);
        for (int i = 0; i < 121; i++) x.type('x');
        check.due("as many as there may be", x.clear(), 120);
        check.due("empty", x.count(4), 0);
        check.due("what it had is gone", Check.tell(x, "s0;"), 1);
        // What stood behind the new text's end is gone as well.
        for (String tail : new String[] {"0", "1", ";", " ;", "x"}) {
            for (char c : ("s0" + tail).toCharArray()) x.type(c);
            x.clear();
            check.due("s0 behind s0" + tail, Check.tell(x, "s0"), -12);
            x.clear();
        }
        x.lists(0);
        x.type('x');
        x.clear();
        check.due("nothing else is empty", x.node(0, 3), 1);
    }

    private static void items() {
        check.says("THE TEXT tells all anew, and is empty then: how many ITEMS.");
        check.tells("", 0);
        check.tells("n2;", 1);
        check.tells("s0;s1;", 2);
        String most = "n6;s0;s1;s2;s3;s4;d0;d1;d2;d3;d4;d5;ea5;eb5;ec5;ed5;ee5;ef5;eg5;eh5;ka;kb;kc;kd;ke;kf;kg;kh;ca;cb;cc;cd;ce;cf;cg;ch;";
        check.tells(most, 36);
        check.tells(most + "    ", 36);
        check.says("-10 less FAULT: nothing changes.");
        SwitchBook x = Check.told("n5;s4;");
        for (int i = 0; i < 3; i++) {
            check.due("a fault at 0", i == 0 ? Check.tell(x, ";s0;") : x.book(), -10);
            check.due("the text stays", x.count(4), 4);
            check.due("the nodes stay", x.count(0), 5);
            check.due("the source stays", x.now(1), 16);
        }
    }

    private static void emptyThen() {
        check.says("and is empty then");
        SwitchBook x = new SwitchBook();
        check.due("book", Check.tell(x, "s0;ba0 1;"), 2);
        check.due("empty", x.count(4), 0);
        check.due("clear", x.clear(), 0);
        check.due("book of nothing", x.book(), 0);
        check.due("tells all anew", x.count(1), 0);
        // Behind a fault it goes on where it was.
        check.due("too early", Check.tell(x, "s0;ba0 1"), -18);
        check.due("the rest", Check.tell(x, ";"), 2);
    }

    private static void readAnew() {
        check.says("(Read anew: as told, PRICES as at first, no ORDER, nothing can be UNDONE, nothing SEEN, IMAGES are gone.)");
        String text = "s0;d1;ba0 1;bb0 2;ic1 2;ed2;ca;kb;";
        for (String second : new String[] {text, "n2;"}) {
            SwitchBook x = Check.told(text);
            x.moves(0);
            x.locks(1);
            x.locks(3);
            x.prices(9, 8, 7);
            x.lists(0);
            x.sees(1, 1);
            x.keep(0);
            x.keep(1);
            Check.tell(x, second);
            SwitchBook y = Check.told(second);
            check.due("anew", Portrait.of(x), Portrait.of(y));
            check.due("no order", x.goes(), SwitchBook.STATE);
            check.due("nothing can be undone", x.undo(), SwitchBook.STATE);
            check.due("nothing seen", x.forget(), 0);
            check.due("image 0 is gone", x.back(0), SwitchBook.STATE);
            check.due("image 1 is gone", x.back(1), SwitchBook.STATE);
        }
        // Nothing of any earlier text is left, whichever texts come behind one another.
        String[] texts = {text, "n2;", "", "n6;s5;ba0 1;bb5 0;ic0 1;id5 4;ee1;ca;cc;ka;kd;", "s0;d1;ia0 1;ib0 2;", "ba0 1;ib1 2;ec0;",
            "d0;d1;d2;ea0;eb1;ec2;ed0;ee1;ef2;eg0;eh1;ca;ch;kb;kg;", "s1;"};
        for (String first : texts) {
            for (String second : texts) {
                for (String third : texts) {
                    SwitchBook x = Check.told(first);
                    Check.tell(x, second);
                    Check.tell(x, third);
                    check.due("'" + first + "', '" + second + "', '" + third + "'", Portrait.of(x), Portrait.of(Check.told(third)));
                }
            }
        }
    }
}
