/** Promises 24 to 26: keep, back, count. */
public final class ImageTest {
    private static final Check check = new Check("ImageTest");

    public static void main(String[] args) {
        keepAndBack();
        nothingElseIsKept();
        refused();
        count();
        check.end();
    }

    private static void keepAndBack() {
        SwitchBook x = Check.told("ba0 1;ib1 2;ec0;ca;");
        check.due("keep 0", x.keep(0), 1);
        x.moves(1);
        x.locks(2);
        x.prices(7, 8, 9);
        check.due("keep 1", x.keep(1), 3);
        check.due("keep is not undone", x.now(8), 3);
        check.due("back 0", x.back(0), 1);
        check.due("closed", x.now(0), 1);
        check.due("locked", x.device(2, 5), 0);
        check.due("prices", x.count(5) * 100 + x.count(6) * 10 + x.count(7), 123);
        check.due("nothing can be undone", x.now(8), 0);
        check.due("undo", x.undo(), SwitchBook.STATE);
        check.due("back 1", x.back(1), 3);
        check.due("closed", x.now(0), 3);
        check.due("locked", x.device(2, 5), 1);
        check.due("prices", x.count(5) * 100 + x.count(6) * 10 + x.count(7), 789);
        x.moves(0);
        check.due("keep 1 anew", x.keep(1), 2);
        x.moves(0);
        check.due("back 1", x.back(1), 2);
        check.due("back 1 again", x.back(1), 2);
        check.due("back 0 as it was", x.back(0), 1);
    }

    private static void nothingElseIsKept() {
        SwitchBook x = Check.told("ba0 1;");
        x.lists(0);
        x.sees(0, 0);
        x.type('s');
        x.keep(0);
        x.lists(0);
        x.sees(1, 0);
        x.type('0');
        x.back(0);
        check.due("the order", x.count(2), 2);
        check.due("seen", x.count(3), 2);
        check.due("the text", x.count(4), 2);
        x.drops();
        x.back(0);
        check.due("the order", x.count(2), 0);
    }

    private static void refused() {
        SwitchBook x = Check.told("ba0 1;");
        for (int bad : new int[] {-1, 2, 32, Integer.MIN_VALUE, Integer.MAX_VALUE}) {
            check.due("keep " + bad, x.keep(bad), SwitchBook.BAD);
            check.due("back " + bad, x.back(bad), SwitchBook.BAD);
        }
        x.moves(0);
        check.due("none was kept", x.back(0), SwitchBook.STATE);
        check.due("refused: closed", x.now(0), 1);
        check.due("refused: undo", x.now(8), 1);
        x.keep(1);
        check.due("the other one was kept", x.back(0), SwitchBook.STATE);
    }

    private static void count() {
        SwitchBook x = Check.told("n5;ba0 1;ib1 2;ec0;ed4;");
        x.lists(0);
        x.lists(1);
        x.lists(2);
        x.sees(0, 0);
        x.sees(1, 0);
        for (int i = 0; i < 6; i++) x.type(' ');
        x.prices(7, 8, 9);
        int[] due = {5, 4, 3, 2, 6, 7, 8, 9};
        for (int what = 0; what < due.length; what++) check.due("count " + what, x.count(what), due[what]);
        for (int bad : new int[] {-1, 8, Integer.MIN_VALUE, Integer.MAX_VALUE}) check.due("count " + bad, x.count(bad), SwitchBook.BAD);
    }
}
