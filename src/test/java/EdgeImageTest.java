/** The edges of images and counts (promises 24 to 26, and what the terms say of them), a test by sentence. */
public final class EdgeImageTest {
    private static final Check check = new Check("EdgeImageTest");
    private static final String EIGHT = "n6;ba0 1;bb1 2;bc2 3;id3 4;ie4 5;ef0;eg1;eh5;";

    public static void main(String[] args) {
        whichImages();
        noneWasKept();
        whoIsClosed();
        whoIsLocked();
        whatIsPriced();
        nothingElse();
        nothingCanBeUndone();
        keptAnew();
        imagesAreGone();
        countsBeyond();
        counts();
        check.end();
    }

    private static void whichImages() {
        check.says("IMAGES 0, 1 keep who is CLOSED, LOCKED, PRICES");
        SwitchBook x = Check.told("ba0 1;");
        check.dueBadBeyond("keep", 0, 1, x::keep);
        check.dueBadBeyond("back, none kept", 0, 1, x::back);
        check.due("none came", x.back(0) + x.back(1), 2 * SwitchBook.STATE);
        check.due("keep 0", x.keep(0), 0);
        x.moves(0);
        check.due("keep 1", x.keep(1), 1);
        check.dueBadBeyond("keep", 0, 1, x::keep);
        check.dueBadBeyond("back, both kept", 0, 1, x::back);
        check.due("back 0", x.back(0), 0);
        check.due("back 1", x.back(1), 1);
        // No switches: an image all the same.
        SwitchBook y = new SwitchBook();
        check.due("keep", y.keep(0), 0);
        check.due("back", y.back(0), 0);
        check.due("not the other one", y.back(1), SwitchBook.STATE);
    }

    private static void noneWasKept() {
        check.says("BAD; STATE: none was kept.");
        for (int image = 0; image < 2; image++) {
            SwitchBook x = Check.told("ba0 1;");
            x.moves(0);
            check.due("none", x.back(image), SwitchBook.STATE);
            check.due("closed as it was", x.now(0), 1);
            check.due("it can be undone yet", x.now(8), 1);
            x.keep(1 - image);
            check.due("the other one", x.back(image), SwitchBook.STATE);
            check.due("it can be undone yet", x.now(8), 1);
            x.keep(image);
            check.due("kept", x.back(image), 1);
        }
    }

    private static void whoIsClosed() {
        check.says("An IMAGE is kept: SWITCHES that are CLOSED (bits). BAD.");
        SwitchBook x = Check.told(EIGHT);
        check.due("none", x.keep(0), 0);
        for (int k = 0; k < 8; k++) x.moves(k);
        check.due("all", x.keep(1), 255);
        check.due("back to none", x.back(0), 0);
        check.due("none is closed", x.now(0), 0);
        check.due("back to all", x.back(1), 255);
        check.due("all are closed", x.now(0), 255);
        for (int k = 0; k < 8; k++) {
            x.moves(k);
            check.due("all but one", x.keep(0), 255 & ~(1 << k));
            x.moves(k);
            check.due("back", x.back(0), 255 & ~(1 << k));
            x.moves(k);
        }
    }

    private static void whoIsLocked() {
        check.says("All of that becomes as an IMAGE has it: SWITCHES that are CLOSED (bits).");
        SwitchBook x = Check.told(EIGHT);
        x.keep(0);
        for (int k = 0; k < 8; k++) x.locks(k);
        x.keep(1);
        x.back(0);
        for (int k = 0; k < 8; k++) check.due("not locked", x.device(k, 5), 0);
        check.due("all are lawful", x.now(4), 255);
        x.back(1);
        for (int k = 0; k < 8; k++) check.due("locked", x.device(k, 5), 1);
        check.due("none is lawful", x.now(4), 0);
        for (int k = 0; k < 8; k++) {
            x.locks(k);
            x.keep(0);
            x.locks(k);
            x.back(0);
            for (int i = 0; i < 8; i++) check.due("all but one", x.device(i, 5), i == k ? 0 : 1);
            x.locks(k);
        }
    }

    private static void whatIsPriced() {
        check.says("keep who is CLOSED, LOCKED, PRICES; nothing else");
        SwitchBook x = Check.told(EIGHT);
        int[][] some = {{1, 1, 1}, {9, 9, 9}, {9, 1, 8}, {1, 9, 7}, {8, 7, 9}};
        for (int[] p : some) {
            x.prices(p[0], p[1], p[2]);
            x.keep(0);
            x.prices(5, 5, 5);
            x.back(0);
            for (int i = 0; i < 3; i++) check.due("price " + i, x.count(5 + i), p[i]);
        }
    }

    private static void nothingElse() {
        check.says("nothing else");
        SwitchBook x = Check.told("ba0 1;bb1 2;");
        x.lists(0);
        x.sees(0, 0);
        x.type('s');
        check.due("keep", x.keep(0), 0);
        check.due("the order stays", x.count(2), 1);
        check.due("what is seen stays", x.count(3), 1);
        check.due("the text stays", x.count(4), 1);
        x.lists(1);
        x.sees(1, 0);
        x.type('0');
        check.due("back", x.back(0), 0);
        check.due("the order as it is", x.count(2), 2);
        check.due("what is seen as it is", x.count(3), 2);
        check.due("the text as it is", x.count(4), 2);
        x.drops();
        x.forget();
        x.clear();
        check.due("back", x.back(0), 0);
        check.due("no order", x.count(2), 0);
        check.due("nothing seen", x.count(3), 0);
        check.due("no text", x.count(4), 0);
        // Nor the other image.
        x.moves(0);
        x.keep(1);
        x.back(0);
        check.due("the other image", x.back(1), 1);
    }

    private static void nothingCanBeUndone() {
        check.says("(nothing can be UNDONE behind back())");
        for (int many = 0; many <= 12; many++) {
            SwitchBook x = Check.told("ba0 1;");
            for (int i = 0; i < many; i++) x.moves(0);
            x.keep(0);
            check.due("keep leaves it", x.now(8), Math.min(many, 10));
            x.back(0);
            check.due("back does not", x.now(8), 0);
            check.due("undo", x.undo(), SwitchBook.STATE);
            check.due("closed", x.now(0), many % 2);
            x.moves(0);
            check.due("the next one can be", x.now(8), 1);
            check.due("undo", x.undo(), 0);
            check.due("closed", x.now(0), many % 2);
        }
    }

    private static void keptAnew() {
        check.says("An IMAGE is kept");
        SwitchBook x = Check.told("ba0 1;bb1 2;");
        x.keep(0);
        x.keep(1);
        x.moves(0);
        check.due("anew", x.keep(0), 1);
        x.moves(1);
        check.due("the later one", x.back(0), 1);
        check.due("the other one as it was", x.back(1), 0);
        check.due("again and again", x.back(0), 1);
        // An undo leaves images as they are.
        x.moves(1);
        x.keep(1);
        x.undo();
        check.due("behind an undo", x.back(1), 3);
    }

    private static void imagesAreGone() {
        check.says("IMAGES are gone.");
        SwitchBook x = Check.told("ba0 1;");
        x.keep(0);
        x.keep(1);
        check.due("a fault", Check.tell(x, ";"), -10);
        check.due("image 0 stays", x.back(0), 0);
        check.due("image 1 stays", x.back(1), 0);
        x.clear();
        check.due("nothing told", x.book(), 0);
        check.due("image 0 is gone", x.back(0), SwitchBook.STATE);
        check.due("image 1 is gone", x.back(1), SwitchBook.STATE);
    }

    private static void countsBeyond() {
        check.says("5 to 7 what it costs to MOVE one of KIND 0 to 2. BAD.");
        check.dueBadBeyond("count, new", 0, 7, new SwitchBook()::count);
        check.dueBadBeyond("count", 0, 7, Check.told(EIGHT)::count);
    }

    private static void counts() {
        check.says("0 NODES, 1 SWITCHES, 2 how long THE ORDER is, 3 SEEN, 4 letters of THE TEXT");
        int[] least = {2, 0, 0, 0, 0, 1, 1, 1};
        int[] most = {6, 8, 12, 6, 120, 9, 9, 9};
        SwitchBook x = Check.told("n2;");
        x.prices(1, 1, 1);
        for (int what = 0; what < 8; what++) check.due("the least, " + what, x.count(what), least[what]);
        SwitchBook y = Check.told(EIGHT);
        y.prices(9, 9, 9);
        for (int i = 0; i < 13; i++) y.lists(i % 8);
        for (int i = 0; i < 7; i++) y.sees(0, 0);
        for (int i = 0; i < 121; i++) y.type(' ');
        for (int what = 0; what < 8; what++) check.due("the most, " + what, y.count(what), most[what]);
        int[] apart = {5, 4, 3, 2, 1, 7, 8, 9};
        SwitchBook z = Check.told("n5;ba0 1;ib1 2;ec0;ed4;");
        for (int i = 0; i < 3; i++) z.lists(i);
        for (int i = 0; i < 2; i++) z.sees(i, 0);
        z.type(' ');
        z.prices(7, 8, 9);
        for (int what = 0; what < 8; what++) check.due("each by itself, " + what, z.count(what), apart[what]);
    }
}
