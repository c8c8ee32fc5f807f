import java.util.Arrays;

/** A book of switching: a net told by a text, and what may be done, found out and undone in it. */
public final class SwitchBook {
    public static final int BAD = -1, STATE = -2, FULL = -3, NONE = -9;

    private static final int BREAKER = 0, ISOLATOR = 1, EARTH = 2, KINDS = 3;
    private static final int MOST_LETTERS = 120, MOST_NODES = 6, MOST_SWITCHES = 8, MOST_STATES = 256;
    private static final int MOST_LISTED = 12, MOST_UNDONE = 10, MOST_SEEN = 6, IMAGES = 2, NAMES = 26;
    private static final int FIRST_NODES = 3, DEAREST_PRICE = 9;
    // No cheapest row of moves comes to a state twice.
    private static final int DEAREST_ROW = (MOST_STATES - 1) * DEAREST_PRICE;
    private static final int UNKNOWN = -1;

    private final Text text = new Text();
    private final Draft draft = new Draft();
    private Net net = new Net();
    // A text is read into this one, so that a fault leaves the other as it was.
    private Net spare = new Net();

    private int closed;
    private int locked;
    private final int[] price = new int[KINDS];

    private final int[] order = new int[MOST_LISTED];
    private int listed;
    private final int[] past = new int[MOST_UNDONE];
    private int undoable;
    private final int[] images = new int[IMAGES];
    private int kept;
    private final int[] seen = new int[MOST_SEEN];
    private int sights;

    // By states: what it costs to come from there to what is aimed at; UNKNOWN: it can't be come to.
    private final int[] cost = new int[MOST_STATES];

    public SwitchBook() {
        startAnew();
    }

    // ---- the book

    public int type(int letter) {
        if (letter < 0 || letter > 255) {
            return BAD;
        }
        if (text.length >= MOST_LETTERS) {
            return FULL;
        }
        text.letters[text.length] = letter;
        text.length++;
        return text.length;
    }

    public int clear() {
        int had = text.length;
        text.length = 0;
        return had;
    }

    public int book() {
        int items = draft.read(text);
        if (items < 0) {
            return -10 - text.start;
        }
        spare.draw(draft);
        if (!spare.sound(spare.closedAsTold)) {
            return -10 - text.length;
        }
        Net older = net;
        net = spare;
        spare = older;
        text.length = 0;
        startAnew();
        return items;
    }

    public int device(int k, int what) {
        if (!isSwitch(k)) {
            return BAD;
        }
        switch (what) {
            case 0: return net.kind[k];
            case 1: return net.name[k];
            case 2: return net.first[k];
            case 3: return net.second[k];
            case 4: return bit(closed, k);
            case 5: return bit(locked, k);
            case 6: return whyNot(k);
            default: return BAD;
        }
    }

    public int named(int letter) {
        if (!isName(letter)) {
            return BAD;
        }
        for (int k = 0; k < net.switches; k++) {
            if (net.name[k] == letter) {
                return k;
            }
        }
        return NONE;
    }

    public int node(int u, int what) {
        if (!isNode(u)) {
            return BAD;
        }
        switch (what) {
            case 0: return bit(net.live[closed], u);
            case 1: return bit(net.earthed[closed], u);
            case 2: return net.lowestOfPart(closed, u);
            case 3: return bit(net.sources, u);
            case 4: return bit(net.loads, u);
            default: return BAD;
        }
    }

    public int now(int what) {
        switch (what) {
            case 0: return closed;
            case 1: return net.live[closed];
            case 2: return net.earthed[closed];
            case 3: return net.live[closed] & net.loads;
            case 4: return lawfulMoves();
            case 5: return net.parts(closed);
            case 6: return states();
            case 7: return far();
            case 8: return undoable;
            default: return BAD;
        }
    }

    // ---- what is done

    public int moves(int k) {
        if (!isSwitch(k)) {
            return BAD;
        }
        if (whyNot(k) != 0) {
            return STATE;
        }
        remember();
        closed ^= 1 << k;
        return closed;
    }

    public int locks(int k) {
        if (!isSwitch(k)) {
            return BAD;
        }
        remember();
        locked ^= 1 << k;
        return bit(locked, k);
    }

    public int prices(int breaker, int isolator, int earth) {
        if (!isPrice(breaker) || !isPrice(isolator) || !isPrice(earth)) {
            return BAD;
        }
        remember();
        setPrices(breaker, isolator, earth);
        return breaker + isolator + earth;
    }

    public int lists(int k) {
        if (!isSwitch(k)) {
            return BAD;
        }
        if (listed >= MOST_LISTED) {
            return FULL;
        }
        order[listed] = k;
        listed++;
        return listed;
    }

    public int goes() {
        if (listed == 0 || whyNot(order[0]) != 0) {
            return STATE;
        }
        remember();
        int moved = 0;
        while (moved < listed && whyNot(order[moved]) == 0) {
            closed ^= 1 << order[moved];
            moved++;
        }
        listed -= moved;
        for (int i = 0; i < listed; i++) {
            order[i] = order[i + moved];
        }
        return moved;
    }

    public int drops() {
        int had = listed;
        listed = 0;
        return had;
    }

    public int undo() {
        if (undoable == 0) {
            return STATE;
        }
        undoable--;
        restore(past[undoable]);
        return undoable;
    }

    // ---- the cheapest order

    public int plan(int set, int closed, int k) {
        if ((set & ~net.allSwitches()) != 0 || (closed & ~set) != 0 || k < -1) {
            return BAD;
        }
        aim(set, closed, 0, 0);
        return cheapest(k);
    }

    public int work(int u, int k) {
        if (!isNode(u) || k < -1) {
            return BAD;
        }
        aim(0, 0, 1 << u, 0);
        return cheapest(k);
    }

    public int supply(int k) {
        if (k < -1) {
            return BAD;
        }
        aim(0, 0, 0, net.loads);
        return cheapest(k);
    }

    public int odds(int x, int what) {
        if (x < 0 || x > 10 || what < 0 || what > 1) {
            return BAD;
        }
        int breakers = closed & net.ofKind(BREAKER);
        int lower = power(10, Integer.bitCount(breakers));
        int upper = waysToStayLive(breakers, x);
        int divisor = greatestCommonDivisor(lower, upper);
        if (divisor == 0) {
            return BAD;
        }
        return (what == 0 ? upper : lower) / divisor;
    }

    // ---- which does not stand as shown

    public int sees(int u, int live) {
        if (!isNode(u) || live < 0 || live > 1) {
            return BAD;
        }
        if (sights >= MOST_SEEN) {
            return FULL;
        }
        seen[sights] = 2 * u + live;
        sights++;
        return sights;
    }

    public int forget() {
        int had = sights;
        sights = 0;
        return had;
    }

    public int unseen() {
        int suspects = 0;
        for (int k = 0; k < net.switches; k++) {
            if (explainsAllSeen(k)) {
                suspects |= 1 << k;
            }
        }
        return suspects;
    }

    public int look() {
        int suspects = unseen();
        int all = Integer.bitCount(suspects);
        if (all <= 1) {
            return NONE;
        }
        int best = NONE;
        int smallest = all + 1;
        for (int u = 0; u < net.nodes; u++) {
            int lit = suspectsThatLight(u, suspects);
            int greater = Math.max(lit, all - lit);
            if (greater < smallest) {
                smallest = greater;
                best = u;
            }
        }
        return best;
    }

    // ---- images

    public int keep(int image) {
        if (!isImage(image)) {
            return BAD;
        }
        images[image] = standing();
        kept |= 1 << image;
        return closed;
    }

    public int back(int image) {
        if (!isImage(image)) {
            return BAD;
        }
        if (bit(kept, image) == 0) {
            return STATE;
        }
        restore(images[image]);
        undoable = 0;
        return closed;
    }

    public int count(int what) {
        switch (what) {
            case 0: return net.nodes;
            case 1: return net.switches;
            case 2: return listed;
            case 3: return sights;
            case 4: return text.length;
            case 5: return price[BREAKER];
            case 6: return price[ISOLATOR];
            case 7: return price[EARTH];
            default: return BAD;
        }
    }

    // ---- what numbers may be

    private boolean isSwitch(int k) {
        return k >= 0 && k < net.switches;
    }

    private boolean isNode(int u) {
        return u >= 0 && u < net.nodes;
    }

    private static boolean isImage(int image) {
        return image >= 0 && image < IMAGES;
    }

    private static boolean isPrice(int amount) {
        return amount >= 1 && amount <= DEAREST_PRICE;
    }

    private static boolean isName(int letter) {
        return letter >= 'a' && letter <= 'z';
    }

    private static int bit(int set, int i) {
        return set >> i & 1;
    }

    // ---- how things stand

    private void startAnew() {
        closed = net.closedAsTold;
        locked = net.lockedAsTold;
        setPrices(1, 2, 3);
        listed = 0;
        undoable = 0;
        sights = 0;
        kept = 0;
    }

    private void setPrices(int breaker, int isolator, int earth) {
        price[BREAKER] = breaker;
        price[ISOLATOR] = isolator;
        price[EARTH] = earth;
    }

    // One number holds all that an undo or an image brings back, so that a row of numbers keeps many.
    private int standing() {
        return closed | locked << 8 | price[BREAKER] << 16 | price[ISOLATOR] << 20 | price[EARTH] << 24;
    }

    private void restore(int standing) {
        closed = standing & 255;
        locked = standing >> 8 & 255;
        setPrices(standing >> 16 & 15, standing >> 20 & 15, standing >> 24 & 15);
    }

    private void remember() {
        if (undoable >= MOST_UNDONE) {
            for (int i = 1; i < MOST_UNDONE; i++) {
                past[i - 1] = past[i];
            }
            undoable = MOST_UNDONE - 1;
        }
        past[undoable] = standing();
        undoable++;
    }

    private int whyNot(int k) {
        return bit(locked, k) == 1 ? 1 : net.whyNot(closed, k);
    }

    private int lawfulMoves() {
        int lawful = 0;
        for (int k = 0; k < net.switches; k++) {
            if (whyNot(k) == 0) {
                lawful |= 1 << k;
            }
        }
        return lawful;
    }

    // ---- the search for what is cheapest

    /**
     * Costs from each state to the nearest one in which, of a set of switches, just those wanted are closed,
     * some nodes are dead and earthed, and others are live. A lawful move is lawful backwards too, from any
     * state that can be come to, so the costs are spread from what is aimed at.
     */
    private void aim(int set, int wanted, int deadAndEarthed, int lit) {
        int all = net.allSwitches();
        for (int state = 0; state <= all; state++) {
            int live = net.live[state];
            boolean aimedAt = (state & set) == wanted
                && (net.earthed[state] & ~live & deadAndEarthed) == deadAndEarthed
                && (live & lit) == lit
                && net.sound(state);
            cost[state] = aimedAt ? 0 : UNKNOWN;
        }
        spread();
    }

    private void spread() {
        int all = net.allSwitches();
        int dearest = 0;
        for (int spent = 0; spent <= dearest && spent <= DEAREST_ROW; spent++) {
            for (int state = 0; state <= all; state++) {
                if (cost[state] == spent) {
                    dearest = Math.max(dearest, spreadFrom(state));
                }
            }
        }
    }

    /** Makes the neighbours of a state cheaper where it can: the dearest cost that it told one. */
    private int spreadFrom(int state) {
        int dearest = 0;
        for (int k = 0; k < net.switches; k++) {
            if (bit(locked, k) == 1 || net.whyNot(state, k) != 0) {
                continue;
            }
            int next = state ^ 1 << k;
            int spent = cost[state] + price[net.kind[k]];
            if (cost[next] == UNKNOWN || cost[next] > spent) {
                cost[next] = spent;
                dearest = Math.max(dearest, spent);
            }
        }
        return dearest;
    }

    /** The cost (k = -1), or the k-th switch of the first of the cheapest rows of moves to what was aimed at. */
    private int cheapest(int k) {
        int whole = cost[closed];
        if (whole == UNKNOWN) {
            return NONE;
        }
        if (k < 0) {
            return whole;
        }
        int state = closed;
        for (int i = 0; i < MOST_STATES && i <= k && cost[state] > 0; i++) {
            int step = stepFrom(state);
            if (step == NONE) {
                return NONE;
            }
            if (i == k) {
                return step;
            }
            state ^= 1 << step;
        }
        return NONE;
    }

    private int stepFrom(int state) {
        for (int k = 0; k < net.switches; k++) {
            if (bit(locked, k) == 0 && net.whyNot(state, k) == 0
                && cost[state ^ 1 << k] + price[net.kind[k]] == cost[state]) {
                return k;
            }
        }
        return NONE;
    }

    private int states() {
        aim(net.allSwitches(), closed, 0, 0);
        int reached = 0;
        for (int state = 0; state <= net.allSwitches(); state++) {
            if (cost[state] != UNKNOWN) {
                reached++;
            }
        }
        return reached;
    }

    private int far() {
        aim(net.allSwitches(), closed, 0, 0);
        int dearest = 0;
        for (int state = 0; state <= net.allSwitches(); state++) {
            dearest = Math.max(dearest, cost[state]);
        }
        return dearest;
    }

    // ---- odds

    /** Of 10 to the number of these breakers equal cases: those in which all loads that are live stay so. */
    private int waysToStayLive(int breakers, int x) {
        int mustStay = net.live[closed] & net.loads;
        int ways = 0;
        for (int opened = 0; opened <= breakers; opened++) {
            if ((opened & ~breakers) == 0 && (net.live[closed & ~opened] & mustStay) == mustStay) {
                ways += power(x, Integer.bitCount(opened)) * power(10 - x, Integer.bitCount(breakers & ~opened));
            }
        }
        return ways;
    }

    private static int power(int base, int exponent) {
        int product = 1;
        for (int i = 0; i < exponent; i++) {
            product *= base;
        }
        return product;
    }

    private static int greatestCommonDivisor(int a, int b) {
        int greater = a;
        int smaller = b;
        // Numbers up to 100,000,000 need some forty rounds at the most.
        for (int i = 0; i < 100 && smaller != 0; i++) {
            int rest = greater % smaller;
            greater = smaller;
            smaller = rest;
        }
        return greater;
    }

    // ---- what was seen

    private boolean explainsAllSeen(int k) {
        int live = net.live[closed ^ 1 << k];
        for (int i = 0; i < sights; i++) {
            if (bit(live, seen[i] / 2) != seen[i] % 2) {
                return false;
            }
        }
        return true;
    }

    private int suspectsThatLight(int u, int suspects) {
        int lit = 0;
        for (int k = 0; k < net.switches; k++) {
            if (bit(suspects, k) == 1) {
                lit += bit(net.live[closed ^ 1 << k], u);
            }
        }
        return lit;
    }

    /** THE TEXT, and the token that is read in it. */
    private static final class Text {
        static final int END = 0, LETTER = 1, NUMBER = 2, SEMICOLON = 3, WRONG = 4;

        final int[] letters = new int[MOST_LETTERS];
        int length;
        // The place behind the token, the place of its first letter.
        int next;
        int start;
        int kind;
        // Of a letter: its place from a on; of a number: the number.
        int value;

        void rewind() {
            next = 0;
        }

        void advance() {
            while (next < length && letters[next] == ' ') {
                next++;
            }
            start = next;
            if (next >= length) {
                kind = END;
                return;
            }
            int letter = letters[next];
            if (letter >= '0' && letter <= '9') {
                readNumber();
                return;
            }
            next++;
            value = letter - 'a';
            kind = letter == ';' ? SEMICOLON : isName(letter) ? LETTER : WRONG;
        }

        private void readNumber() {
            int number = 0;
            while (next < length && letters[next] >= '0' && letters[next] <= '9') {
                // Above 99 it is wrong already: growing on, a long one would wrap around.
                if (number <= 99) {
                    number = 10 * number + letters[next] - '0';
                }
                next++;
            }
            boolean zeroAhead = letters[start] == '0' && next - start > 1;
            value = number;
            kind = number > 99 || zeroAhead ? WRONG : NUMBER;
        }

        /** The next token's value, if it is of that kind and among the values that may stand there (bits); else -1. */
        int take(int wantedKind, int allowed) {
            advance();
            boolean stands = kind == wantedKind && value >= 0 && value < 32 && bit(allowed, value) == 1;
            return stands ? value : -1;
        }

        boolean takeSemicolon() {
            advance();
            return kind == SEMICOLON;
        }
    }

    /** What a text has told so far, switches by their names (0 is a). */
    private static final class Draft {
        static final int ALL_NAMES = (1 << NAMES) - 1;
        static final int FROM_2_TO_6 = 124;

        int nodes;
        int sources;
        int loads;
        int names;
        int closedNames;
        int lockedNames;
        final int[] kind = new int[NAMES];
        final int[] first = new int[NAMES];
        final int[] second = new int[NAMES];

        /** How many items there are; -1: the text's token can't stand where it is. */
        int read(Text text) {
            forgetAll();
            text.rewind();
            for (int items = 0; items <= MOST_LETTERS; items++) {
                text.advance();
                if (text.kind == Text.END) {
                    return items;
                }
                if (!readItem(text, items) || !text.takeSemicolon()) {
                    return -1;
                }
            }
            return -1;
        }

        private void forgetAll() {
            nodes = FIRST_NODES;
            sources = 0;
            loads = 0;
            names = 0;
            closedNames = 0;
            lockedNames = 0;
        }

        private boolean readItem(Text text, int itemsAhead) {
            if (text.kind != Text.LETTER) {
                return false;
            }
            switch (text.value + 'a') {
                case 'n': return itemsAhead == 0 && readNodes(text);
                case 's': return readSource(text);
                case 'd': return readLoad(text);
                case 'b': return readSwitch(text, BREAKER);
                case 'i': return readSwitch(text, ISOLATOR);
                case 'e': return readSwitch(text, EARTH);
                case 'c': return readClosed(text);
                case 'k': return readLocked(text);
                default: return false;
            }
        }

        private int allNodes() {
            return (1 << nodes) - 1;
        }

        private static int asSet(int taken) {
            return taken < 0 ? 0 : 1 << taken;
        }

        private boolean readNodes(Text text) {
            int told = text.take(Text.NUMBER, FROM_2_TO_6);
            if (told < 0) {
                return false;
            }
            nodes = told;
            return true;
        }

        private boolean readSource(Text text) {
            int u = text.take(Text.NUMBER, allNodes() & ~sources);
            sources |= asSet(u);
            return u >= 0;
        }

        private boolean readLoad(Text text) {
            int u = text.take(Text.NUMBER, allNodes() & ~loads);
            loads |= asSet(u);
            return u >= 0;
        }

        private boolean readClosed(Text text) {
            int x = text.take(Text.LETTER, names & ~closedNames);
            closedNames |= asSet(x);
            return x >= 0;
        }

        private boolean readLocked(Text text) {
            int x = text.take(Text.LETTER, names & ~lockedNames);
            lockedNames |= asSet(x);
            return x >= 0;
        }

        private boolean readSwitch(Text text, int itsKind) {
            // Ahead of its name: that a ninth one can't be told is plain from its first letter on.
            if (Integer.bitCount(names) >= MOST_SWITCHES) {
                return false;
            }
            int x = text.take(Text.LETTER, ALL_NAMES & ~names);
            if (x < 0) {
                return false;
            }
            int u = text.take(Text.NUMBER, allNodes());
            if (u < 0) {
                return false;
            }
            int v = itsKind == EARTH ? NONE : text.take(Text.NUMBER, allNodes() & ~asSet(u));
            if (v == -1) {
                return false;
            }
            names |= 1 << x;
            kind[x] = itsKind;
            first[x] = u;
            second[x] = v;
            return true;
        }
    }

    /** The net as told, and, for each state (the switches that are closed, as bits), what follows from it. */
    private static final class Net {
        int nodes = FIRST_NODES;
        int sources;
        int loads;
        int switches;
        int closedAsTold;
        int lockedAsTold;
        final int[] kind = new int[MOST_SWITCHES];
        final int[] name = new int[MOST_SWITCHES];
        final int[] first = new int[MOST_SWITCHES];
        final int[] second = new int[MOST_SWITCHES];

        final int[] live = new int[MOST_STATES];
        final int[] earthed = new int[MOST_STATES];
        // The isolators that are under load.
        final int[] held = new int[MOST_STATES];
        // By nodes, in the state that was looked at last: all nodes of its part.
        private final int[] part = new int[MOST_NODES];

        void draw(Draft draft) {
            nodes = draft.nodes;
            sources = draft.sources;
            loads = draft.loads;
            switches = 0;
            closedAsTold = 0;
            lockedAsTold = 0;
            for (int itsKind = 0; itsKind < KINDS; itsKind++) {
                for (int x = 0; x < NAMES; x++) {
                    if (bit(draft.names, x) == 1 && draft.kind[x] == itsKind && switches < MOST_SWITCHES) {
                        number(draft, x);
                    }
                }
            }
            measureStates();
        }

        private void number(Draft draft, int x) {
            kind[switches] = draft.kind[x];
            name[switches] = x + 'a';
            first[switches] = draft.first[x];
            second[switches] = draft.second[x];
            closedAsTold |= bit(draft.closedNames, x) << switches;
            lockedAsTold |= bit(draft.lockedNames, x) << switches;
            switches++;
        }

        private void measureStates() {
            Arrays.fill(held, 0);
            for (int state = 0; state <= allSwitches(); state++) {
                formParts(state);
                live[state] = partsWith(sources);
                earthed[state] = partsWith(nodesOfClosedEarths(state));
                holdIsolators(state, partsWith(loads));
            }
        }

        private void formParts(int state) {
            for (int u = 0; u < nodes; u++) {
                part[u] = 1 << u;
            }
            for (int k = 0; k < switches; k++) {
                if (kind[k] != EARTH && bit(state, k) == 1) {
                    join(part[first[k]] | part[second[k]]);
                }
            }
        }

        private void join(int whole) {
            for (int u = 0; u < nodes; u++) {
                if (bit(whole, u) == 1) {
                    part[u] = whole;
                }
            }
        }

        private int partsWith(int some) {
            int all = 0;
            for (int u = 0; u < nodes; u++) {
                if (bit(some, u) == 1) {
                    all |= part[u];
                }
            }
            return all;
        }

        private int nodesOfClosedEarths(int state) {
            int found = 0;
            for (int k = 0; k < switches; k++) {
                if (kind[k] == EARTH && bit(state, k) == 1) {
                    found |= 1 << first[k];
                }
            }
            return found;
        }

        /** What holds an isolator is told by the state in which it is open, and holds it closed as well. */
        private void holdIsolators(int state, int loaded) {
            for (int k = 0; k < switches; k++) {
                if (kind[k] == ISOLATOR && bit(state, k) == 0 && isUnderLoad(k, live[state], loaded)) {
                    held[state] |= 1 << k;
                    held[state | 1 << k] |= 1 << k;
                }
            }
        }

        private boolean isUnderLoad(int k, int lit, int loaded) {
            int u = first[k];
            int v = second[k];
            if (bit(part[u], v) == 1) {
                return false;
            }
            return bit(lit, u) == 1 && bit(lit | loaded, v) == 1 || bit(lit, v) == 1 && bit(loaded, u) == 1;
        }

        int allSwitches() {
            return (1 << switches) - 1;
        }

        int ofKind(int wanted) {
            int found = 0;
            for (int k = 0; k < switches; k++) {
                if (kind[k] == wanted) {
                    found |= 1 << k;
                }
            }
            return found;
        }

        boolean sound(int state) {
            return (live[state] & earthed[state]) == 0;
        }

        /** Locks aside: 2, 3 as the document tells them, 0: a switch may be moved. */
        int whyNot(int state, int k) {
            if (bit(held[state], k) == 1) {
                return 2;
            }
            return sound(state ^ 1 << k) ? 0 : 3;
        }

        int lowestOfPart(int state, int u) {
            formParts(state);
            int lowest = 0;
            while (lowest < u && bit(part[u], lowest) == 0) {
                lowest++;
            }
            return lowest;
        }

        int parts(int state) {
            int found = 0;
            for (int u = 0; u < nodes; u++) {
                if (lowestOfPart(state, u) == u) {
                    found++;
                }
            }
            return found;
        }
    }
}
