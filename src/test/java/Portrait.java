/** All that an object holds, as one text; for a net of four switches and three nodes in some 300 calls in all. */
final class Portrait {
    private Portrait() { }

    /** What can be asked without changing anything. */
    static String of(SwitchBook x) {
        int switches = x.count(1);
        int nodes = x.count(0);
        StringBuilder all = new StringBuilder("count");
        for (int what = 0; what < 8; what++) all.append(' ').append(x.count(what));
        all.append(" now");
        for (int what = 0; what < 9; what++) all.append(' ').append(x.now(what));
        all.append(" devices");
        for (int k = 0; k < switches; k++) {
            for (int what = 0; what < 7; what++) all.append(' ').append(x.device(k, what));
        }
        all.append(" nodes");
        for (int u = 0; u < nodes; u++) {
            for (int what = 0; what < 5; what++) all.append(' ').append(x.node(u, what));
            all.append(' ').append(x.work(u, -1));
        }
        all.append(" supply ").append(x.supply(-1)).append(' ').append(x.supply(0));
        all.append(" odds ").append(x.odds(3, 0)).append(' ').append(x.odds(3, 1));
        all.append(" seen ").append(x.unseen()).append(' ').append(x.look());
        return all.toString();
    }

    /** What can only be found out by changes: what can be undone, the order, the images, the text; it uses them up. */
    static String inside(SwitchBook x) {
        int switches = x.count(1);
        StringBuilder all = new StringBuilder("undone");
        for (int i = 0; i < 11; i++) all.append(' ').append(x.undo()).append(standing(x, switches));
        all.append(" order");
        for (int k = 0; k < switches; k++) {
            x.locks(k);
            all.append(' ').append(x.goes()).append(standing(x, switches));
            x.locks(k);
        }
        all.append(' ').append(x.goes()).append(standing(x, switches));
        for (int image = 0; image < 2; image++) all.append(" image ").append(x.back(image)).append(standing(x, switches));
        all.append(" text ").append(x.book()).append(' ').append(x.clear()).append(standing(x, x.count(1)));
        return all.toString();
    }

    private static String standing(SwitchBook x, int switches) {
        StringBuilder all = new StringBuilder("/").append(x.now(0)).append('/');
        for (int k = 0; k < switches; k++) all.append(x.device(k, 5));
        return all.append('/').append(x.count(5)).append(x.count(6)).append(x.count(7)).toString();
    }
}
