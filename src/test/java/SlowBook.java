import java.math.BigInteger;
import java.util.ArrayDeque;
import java.util.ArrayList;
import java.util.Comparator;
import java.util.Deque;
import java.util.HashMap;
import java.util.HashSet;
import java.util.List;
import java.util.Map;
import java.util.PriorityQueue;
import java.util.Set;
import java.util.TreeSet;
import java.util.function.IntPredicate;

/** The document told once more, slowly and by other means, to compare SwitchBook with. */
final class SlowBook {
    static final int BAD = -1, STATE = -2, FULL = -3, NONE = -9;

    record Device(int kind, char name, int first, int second) { }

    record Standing(int closed, int locked, List<Integer> prices) { }

    private StringBuilder text = new StringBuilder();
    private int nodes = 3;
    private Set<Integer> sources = new TreeSet<>();
    private Set<Integer> loads = new TreeSet<>();
    private List<Device> devices = new ArrayList<>();
    private Standing now = new Standing(0, 0, List.of(1, 2, 3));
    private Deque<Standing> past = new ArrayDeque<>();
    private List<Integer> order = new ArrayList<>();
    private List<int[]> seen = new ArrayList<>();
    private Standing[] images = new Standing[2];

    int type(int letter) {
        if (letter < 0 || letter > 255) return BAD;
        if (text.length() == 120) return FULL;
        text.append((char) letter);
        return text.length();
    }

    int clear() {
        int had = text.length();
        text = new StringBuilder();
        return had;
    }

    private static final class Fault extends Exception {
        private static final long serialVersionUID = 1L;
        final int place;

        Fault(int place) {
            this.place = place;
        }
    }

    private record Token(String letters, int place) { }

    private static List<Token> tokens(String all) {
        List<Token> found = new ArrayList<>();
        java.util.regex.Matcher m = java.util.regex.Pattern.compile("[0-9]+|[^ ]", java.util.regex.Pattern.DOTALL).matcher(all);
        while (m.find()) found.add(new Token(m.group(), m.start()));
        return found;
    }

    int book() {
        SlowBook fresh = new SlowBook();
        int items;
        try {
            items = fresh.read(text.toString());
        } catch (Fault f) {
            return -10 - f.place;
        }
        nodes = fresh.nodes;
        sources = fresh.sources;
        loads = fresh.loads;
        devices = fresh.devices;
        now = fresh.now;
        past = fresh.past;
        order = fresh.order;
        seen = fresh.seen;
        images = fresh.images;
        text = new StringBuilder();
        return items;
    }

    private int read(String all) throws Fault {
        Set<Character> shut = new HashSet<>();
        Set<Character> tied = new HashSet<>();
        Map<Character, Device> by = new HashMap<>();
        Deque<Token> left = new ArrayDeque<>(tokens(all));
        int items = 0;
        while (!left.isEmpty()) {
            Token t = left.poll();
            switch (t.letters) {
                case "n" -> {
                    if (items != 0) throw new Fault(t.place);
                    nodes = number(left, all, v -> v >= 2 && v <= 6);
                }
                case "s" -> sources.add(number(left, all, v -> v < nodes && !sources.contains(v)));
                case "d" -> loads.add(number(left, all, v -> v < nodes && !loads.contains(v)));
                case "b", "i", "e" -> {
                    if (by.size() == 8) throw new Fault(t.place);
                    char x = name(left, all, c -> !by.containsKey((char) c));
                    int u = number(left, all, v -> v < nodes);
                    int w = t.letters.equals("e") ? NONE : number(left, all, v -> v < nodes && v != u);
                    by.put(x, new Device("bie".indexOf(t.letters), x, u, w));
                }
                case "c" -> shut.add(name(left, all, c -> by.containsKey((char) c) && !shut.contains((char) c)));
                case "k" -> tied.add(name(left, all, c -> by.containsKey((char) c) && !tied.contains((char) c)));
                default -> throw new Fault(t.place);
            }
            Token end = left.poll();
            if (end == null) throw new Fault(all.length());
            if (!end.letters.equals(";")) throw new Fault(end.place);
            items++;
        }
        devices.addAll(by.values());
        devices.sort(Comparator.comparingInt(Device::kind).thenComparing(Device::name));
        int closed = 0;
        int locked = 0;
        for (int k = 0; k < devices.size(); k++) {
            if (shut.contains(devices.get(k).name)) closed |= 1 << k;
            if (tied.contains(devices.get(k).name)) locked |= 1 << k;
        }
        now = new Standing(closed, locked, List.of(1, 2, 3));
        if (liveIsEarthed(closed)) throw new Fault(all.length());
        return items;
    }

    private static int number(Deque<Token> left, String all, IntPredicate fits) throws Fault {
        Token t = left.poll();
        if (t == null) throw new Fault(all.length());
        if (!t.letters.matches("0|[1-9][0-9]?") || !fits.test(Integer.parseInt(t.letters))) throw new Fault(t.place);
        return Integer.parseInt(t.letters);
    }

    private static char name(Deque<Token> left, String all, IntPredicate fits) throws Fault {
        Token t = left.poll();
        if (t == null) throw new Fault(all.length());
        if (!t.letters.matches("[a-z]") || !fits.test(t.letters.charAt(0))) throw new Fault(t.place);
        return t.letters.charAt(0);
    }

    // ---- parts, by walking from a node

    private static boolean on(int bits, int i) {
        return (bits & 1 << i) != 0;
    }

    private Set<Integer> part(int state, int from) {
        Set<Integer> found = new TreeSet<>();
        walk(state, from, found);
        return found;
    }

    private void walk(int state, int u, Set<Integer> found) {
        if (!found.add(u)) return;
        for (int k = 0; k < devices.size(); k++) {
            Device d = devices.get(k);
            if (d.kind == 2 || !on(state, k)) continue;
            if (d.first == u) walk(state, d.second, found);
            if (d.second == u) walk(state, d.first, found);
        }
    }

    private boolean live(int state, int u) {
        return part(state, u).stream().anyMatch(sources::contains);
    }

    private boolean earthed(int state, int u) {
        Set<Integer> part = part(state, u);
        for (int k = 0; k < devices.size(); k++) {
            Device d = devices.get(k);
            if (d.kind == 2 && on(state, k) && part.contains(d.first)) return true;
        }
        return false;
    }

    private boolean liveIsEarthed(int state) {
        for (int u = 0; u < nodes; u++) {
            if (live(state, u) && earthed(state, u)) return true;
        }
        return false;
    }

    private int why(int state, int k) {
        if (on(now.locked, k)) return 1;
        Device d = devices.get(k);
        if (d.kind == 1) {
            int open = state & ~(1 << k);
            boolean two = !part(open, d.first).contains(d.second);
            boolean liveA = live(open, d.first);
            boolean liveB = live(open, d.second);
            boolean loadA = part(open, d.first).stream().anyMatch(loads::contains);
            boolean loadB = part(open, d.second).stream().anyMatch(loads::contains);
            if (two && (liveA && liveB || liveA && loadB || liveB && loadA)) return 2;
        }
        return liveIsEarthed(state ^ 1 << k) ? 3 : 0;
    }

    // ---- answers about what stands

    int device(int k, int what) {
        if (k < 0 || k >= devices.size() || what < 0 || what > 6) return BAD;
        Device d = devices.get(k);
        int[] all = {d.kind, d.name, d.first, d.second, on(now.closed, k) ? 1 : 0, on(now.locked, k) ? 1 : 0, why(now.closed, k)};
        return all[what];
    }

    int named(int letter) {
        if (letter < 97 || letter > 122) return BAD;
        for (int k = 0; k < devices.size(); k++) {
            if (devices.get(k).name == letter) return k;
        }
        return NONE;
    }

    int node(int u, int what) {
        if (u < 0 || u >= nodes || what < 0 || what > 4) return BAD;
        return switch (what) {
            case 0 -> live(now.closed, u) ? 1 : 0;
            case 1 -> earthed(now.closed, u) ? 1 : 0;
            case 2 -> part(now.closed, u).iterator().next();
            case 3 -> sources.contains(u) ? 1 : 0;
            default -> loads.contains(u) ? 1 : 0;
        };
    }

    private static int bits(int upTo, IntPredicate holds) {
        int set = 0;
        for (int i = 0; i < upTo; i++) {
            if (holds.test(i)) set |= 1 << i;
        }
        return set;
    }

    int now(int what) {
        return switch (what) {
            case 0 -> now.closed;
            case 1 -> bits(nodes, u -> live(now.closed, u));
            case 2 -> bits(nodes, u -> earthed(now.closed, u));
            case 3 -> bits(nodes, u -> live(now.closed, u) && loads.contains(u));
            case 4 -> bits(devices.size(), k -> why(now.closed, k) == 0);
            case 5 -> {
                Set<Set<Integer>> parts = new HashSet<>();
                for (int u = 0; u < nodes; u++) parts.add(part(now.closed, u));
                yield parts.size();
            }
            case 6 -> rows().size();
            case 7 -> rows().values().stream().mapToInt(Way::cost).max().getAsInt();
            case 8 -> past.size();
            default -> BAD;
        };
    }

    // ---- what is done

    private void change(int closed, int locked, List<Integer> prices) {
        past.addLast(now);
        if (past.size() > 10) past.removeFirst();
        now = new Standing(closed, locked, prices);
    }

    int moves(int k) {
        if (k < 0 || k >= devices.size()) return BAD;
        if (why(now.closed, k) != 0) return STATE;
        change(now.closed ^ 1 << k, now.locked, now.prices);
        return now.closed;
    }

    int locks(int k) {
        if (k < 0 || k >= devices.size()) return BAD;
        change(now.closed, now.locked ^ 1 << k, now.prices);
        return on(now.locked, k) ? 1 : 0;
    }

    int prices(int a, int b, int c) {
        for (int p : new int[] {a, b, c}) {
            if (p < 1 || p > 9) return BAD;
        }
        change(now.closed, now.locked, List.of(a, b, c));
        return a + b + c;
    }

    int lists(int k) {
        if (k < 0 || k >= devices.size()) return BAD;
        if (order.size() == 12) return FULL;
        order.add(k);
        return order.size();
    }

    int goes() {
        int state = now.closed;
        int moved = 0;
        while (!order.isEmpty() && why(state, order.get(0)) == 0) {
            state ^= 1 << order.remove(0);
            moved++;
        }
        if (moved == 0) return STATE;
        change(state, now.locked, now.prices);
        return moved;
    }

    int drops() {
        int had = order.size();
        order.clear();
        return had;
    }

    int undo() {
        if (past.isEmpty()) return STATE;
        now = past.removeLast();
        return past.size();
    }

    // ---- cheapest rows: the whole rows are carried along and compared

    record Way(int state, int cost, List<Integer> row) { }

    private static int compare(Way a, Way b) {
        if (a.cost != b.cost) return Integer.compare(a.cost, b.cost);
        for (int i = 0; i < Math.min(a.row.size(), b.row.size()); i++) {
            int c = a.row.get(i).compareTo(b.row.get(i));
            if (c != 0) return c;
        }
        return Integer.compare(a.row.size(), b.row.size());
    }

    private Map<Integer, Way> rows() {
        Map<Integer, Way> best = new HashMap<>();
        PriorityQueue<Way> open = new PriorityQueue<>(SlowBook::compare);
        open.add(new Way(now.closed, 0, List.of()));
        while (!open.isEmpty()) {
            Way w = open.poll();
            if (best.putIfAbsent(w.state, w) != null) continue;
            for (int k = 0; k < devices.size(); k++) {
                if (why(w.state, k) != 0) continue;
                List<Integer> row = new ArrayList<>(w.row);
                row.add(k);
                open.add(new Way(w.state ^ 1 << k, w.cost + now.prices.get(devices.get(k).kind), row));
            }
        }
        return best;
    }

    private int cheapest(IntPredicate aim, int k) {
        Way best = null;
        for (Way w : rows().values()) {
            if (aim.test(w.state) && (best == null || compare(w, best) < 0)) best = w;
        }
        if (best == null) return NONE;
        if (k == -1) return best.cost;
        return k < best.row.size() ? best.row.get(k) : NONE;
    }

    int plan(int set, int closed, int k) {
        if (set < 0 || set >= 1 << devices.size() || (set | closed) != set || k < -1) return BAD;
        return cheapest(s -> (s & set) == closed, k);
    }

    int work(int u, int k) {
        if (u < 0 || u >= nodes || k < -1) return BAD;
        return cheapest(s -> !live(s, u) && earthed(s, u), k);
    }

    int supply(int k) {
        if (k < -1) return BAD;
        return cheapest(s -> loads.stream().allMatch(u -> live(s, u)), k);
    }

    /** Of 10^8 equal cases, breaker by breaker: those in which the loads stay live. */
    private BigInteger cases(int state, int k, int x) {
        if (k == devices.size()) {
            boolean stay = loads.stream().allMatch(u -> !live(now.closed, u) || live(state, u));
            return stay ? BigInteger.ONE : BigInteger.ZERO;
        }
        if (devices.get(k).kind != 0 || !on(now.closed, k)) return cases(state, k + 1, x).multiply(BigInteger.TEN);
        return cases(state & ~(1 << k), k + 1, x).multiply(BigInteger.valueOf(x))
            .add(cases(state, k + 1, x).multiply(BigInteger.valueOf(10 - x)));
    }

    int odds(int x, int what) {
        if (x < 0 || x > 10 || what < 0 || what > 1) return BAD;
        BigInteger upper = cases(now.closed, 0, x);
        BigInteger lower = BigInteger.TEN.pow(devices.size());
        return (what == 0 ? upper : lower).divide(upper.gcd(lower)).intValueExact();
    }

    // ---- seen

    int sees(int u, int live) {
        if (u < 0 || u >= nodes || live < 0 || live > 1) return BAD;
        if (seen.size() == 6) return FULL;
        seen.add(new int[] {u, live});
        return seen.size();
    }

    int forget() {
        int had = seen.size();
        seen.clear();
        return had;
    }

    int unseen() {
        return bits(devices.size(), k -> seen.stream().allMatch(s -> live(now.closed ^ 1 << k, s[0]) == (s[1] == 1)));
    }

    int look() {
        List<Integer> could = new ArrayList<>();
        for (int k = 0; k < devices.size(); k++) {
            if (on(unseen(), k)) could.add(k);
        }
        if (could.size() < 2) return NONE;
        int best = -1;
        long least = Long.MAX_VALUE;
        for (int u = nodes - 1; u >= 0; u--) {
            int v = u;
            long lit = could.stream().filter(k -> live(now.closed ^ 1 << k, v)).count();
            long greater = Math.max(lit, could.size() - lit);
            if (greater <= least) {
                least = greater;
                best = u;
            }
        }
        return best;
    }

    // ---- images

    int keep(int image) {
        if (image < 0 || image > 1) return BAD;
        images[image] = now;
        return now.closed;
    }

    int back(int image) {
        if (image < 0 || image > 1) return BAD;
        if (images[image] == null) return STATE;
        now = images[image];
        past.clear();
        return now.closed;
    }

    int count(int what) {
        return switch (what) {
            case 0 -> nodes;
            case 1 -> devices.size();
            case 2 -> order.size();
            case 3 -> seen.size();
            case 4 -> text.length();
            case 5, 6, 7 -> now.prices.get(what - 5);
            default -> BAD;
        };
    }
}
