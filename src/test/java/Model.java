import java.util.ArrayDeque;
import java.util.ArrayList;
import java.util.Arrays;
import java.util.HashMap;
import java.util.HashSet;
import java.util.List;
import java.util.Map;
import java.util.NoSuchElementException;
import java.util.PriorityQueue;

/**
 * The document once more, slow and plain, by other means than RopeTown: trees of rules, states as lists, loads and
 * unloads tried one by one, every set of things looked at.
 */
final class Model {
    private static final int NONE = -1;
    private static final int SPENT = -2;
    private static final int IN0 = 100;
    private static final int IN1 = 101;
    private static final int POURED = 200;
    private static final int GONE = 300;

    private static final class Fault extends RuntimeException {
        private static final long serialVersionUID = 1L;
        final int code;
        final int place;

        Fault(int code, int place) {
            this.code = code;
            this.place = place;
        }
    }

    private static final class Node {
        final String op;
        final int number;
        final Node left;
        final Node right;

        Node(String op, int number, Node left, Node right) {
            this.op = op;
            this.number = number;
            this.left = left;
            this.right = right;
        }
    }

    private static final class Town {
        int depth = 1;
        int start = 0;
        int cap = 99;
        int rope = 0;
        int needs = 1;
        int most = 20;
        int brake = 0;
        final List<int[]> things = new ArrayList<>();
        final List<Node> rules = new ArrayList<>();
    }

    private static final class Parser {
        final String text;
        final List<String> tokens = new ArrayList<>();
        final List<Integer> places = new ArrayList<>();
        int at = 0;
        final Town town = new Town();
        final HashSet<String> told = new HashSet<>();

        Parser(String text) {
            this.text = text;
            java.util.regex.Matcher m =
                java.util.regex.Pattern.compile("[a-z]+|[0-9]+|[^ \n]", java.util.regex.Pattern.DOTALL).matcher(text);
            while (m.find()) {
                tokens.add(m.group());
                places.add(m.start());
            }
            tokens.add("");
            places.add(text.length());
        }

        String peek() {
            return tokens.get(at);
        }

        RuntimeException fault(int code) {
            return new Fault(code, places.get(at));
        }

        boolean isWord() {
            return peek().matches("[a-z]+");
        }

        boolean isNumber() {
            return peek().matches("[0-9]+");
        }

        void expect(String token) {
            if (!peek().equals(token)) {
                throw fault(1);
            }
            at++;
        }

        int number(int low, int high) {
            if (!isNumber()) {
                throw fault(1);
            }
            if (peek().length() > 4) {
                throw fault(2);
            }
            int n = Integer.parseInt(peek());
            if (n < low || n > high) {
                throw fault(2);
            }
            at++;
            return n;
        }

        Town parse() {
            boolean first = true;
            while (!peek().isEmpty()) {
                String head = peek();
                switch (head) {
                    case "depth":
                        if (!first) {
                            throw fault(4);
                        }
                        at++;
                        town.depth = number(1, 11);
                        break;
                    case "start": case "cap": case "rope": case "needs": case "most": case "brake":
                        if (!told.add(head)) {
                            throw fault(5);
                        }
                        at++;
                        set(head);
                        break;
                    case "load": case "person": case "stone": case "water":
                        if (town.things.size() == 7) {
                            throw fault(2);
                        }
                        at++;
                        thing(Arrays.asList("load", "person", "stone", "water").indexOf(head));
                        break;
                    case "rule":
                        if (town.rules.size() == 4) {
                            throw fault(2);
                        }
                        at++;
                        town.rules.add(expr(1));
                        break;
                    default:
                        throw fault(1);
                }
                expect(";");
                first = false;
            }
            return town;
        }

        void set(String head) {
            switch (head) {
                case "start": town.start = number(0, town.depth); break;
                case "cap": town.cap = number(1, 999); break;
                case "rope": town.rope = number(0, 9); break;
                case "needs": town.needs = number(0, 99); break;
                case "most": town.most = number(0, 999); break;
                default: town.brake = number(0, 999);
            }
        }

        void thing(int kind) {
            int weight = number(1, 99);
            expect("at");
            int depth = number(0, town.depth);
            int aim = NONE;
            if (kind != 2 && peek().equals("to")) {
                at++;
                aim = number(0, town.depth);
            }
            town.things.add(new int[] {kind, weight, depth, aim});
        }

        Node expr(int nth) {
            if (nth == 7 && (isWord() || isNumber() || peek().equals("("))) {
                throw fault(2);
            }
            Node left = and(nth);
            while (peek().equals("or")) {
                at++;
                left = new Node("or", 0, left, and(nth));
            }
            return left;
        }

        Node and(int nth) {
            Node left = not(nth, 1);
            while (peek().equals("and")) {
                at++;
                left = new Node("and", 0, left, not(nth, 1));
            }
            return left;
        }

        Node not(int nth, int nots) {
            if (peek().equals("not")) {
                if (nots == 7) {
                    throw fault(2);
                }
                at++;
                return new Node("not", 0, not(nth, nots + 1), null);
            }
            Node left = sum(nth);
            if (peek().equals("<") || peek().equals("=")) {
                String op = peek();
                at++;
                return new Node(op, 0, left, sum(nth));
            }
            return left;
        }

        Node sum(int nth) {
            Node left = product(nth);
            while (peek().equals("+") || peek().equals("-")) {
                String op = peek();
                at++;
                left = new Node(op, 0, left, product(nth));
            }
            return left;
        }

        Node product(int nth) {
            Node left = part(nth);
            while (peek().equals("*") || peek().equals("/")) {
                String op = peek();
                at++;
                left = new Node(op, 0, left, part(nth));
            }
            return left;
        }

        Node part(int nth) {
            if (isNumber()) {
                return new Node("number", number(0, 9999), null, null);
            }
            if (isWord()) {
                int value = Arrays.asList("loads", "people", "stones", "waters", "weight", "depth", "other")
                    .indexOf(peek());
                if (value < 0) {
                    throw fault(3);
                }
                at++;
                return new Node("value", value, null, null);
            }
            if (peek().equals("(")) {
                at++;
                Node inner = expr(nth + 1);
                expect(")");
                return inner;
            }
            throw fault(1);
        }
    }

    private static int eval(Node n, int[] values) {
        switch (n.op) {
            case "number": return n.number;
            case "value": return values[n.number];
            case "not": return eval(n.left, values) == 0 ? 1 : 0;
            default:
        }
        int l = eval(n.left, values);
        int r = eval(n.right, values);
        switch (n.op) {
            case "or": return l != 0 || r != 0 ? 1 : 0;
            case "and": return l != 0 && r != 0 ? 1 : 0;
            case "<": return l < r ? 1 : 0;
            case "=": return l == r ? 1 : 0;
            case "+": return l + r;
            case "-": return l - r;
            case "*": return l * r;
            default: return r == 0 ? 0 : l / r;
        }
    }

    private static final class Move {
        int which;
        int target;
        int manner;
        List<Integer> before;
        int wound;
    }

    private static final class Book {
        // Each THING's place, then the DEPTH of BUCKET 0.
        List<Integer> state = new ArrayList<>(Arrays.asList(0));
        List<Move> row = new ArrayList<>();
        List<Integer> days = new ArrayList<>();
        int[] status = new int[3];

        Book copy() {
            Book b = new Book();
            b.state = new ArrayList<>(state);
            b.row = new ArrayList<>(row);
            b.days = new ArrayList<>(days);
            b.status = status.clone();
            return b;
        }
    }

    private Town town = new Town();
    private Book book = new Book();
    private Book image = null;
    private final StringBuilder tape = new StringBuilder();
    private int faultPlace = NONE;

    int feed(int... five) {
        if (tape.length() + 20 > 600) {
            return NONE;
        }
        for (int n : five) {
            for (int k = 3; k >= 0; k--) {
                tape.append((char) (n >> 8 * k & 255));
            }
        }
        return tape.length();
    }

    int town(int n) {
        if (n < 0 || n > tape.length()) {
            throw new IllegalArgumentException();
        }
        String text = tape.substring(0, n);
        tape.setLength(0);
        try {
            town = new Parser(text).parse();
        } catch (Fault f) {
            faultPlace = f.place;
            book.status[0]++;
            return f.code;
        }
        faultPlace = NONE;
        int[] status = book.status;
        book = new Book();
        book.status = status;
        book.state = firstState();
        image = null;
        return 0;
    }

    private List<Integer> firstState() {
        List<Integer> s = new ArrayList<>();
        for (int[] t : town.things) {
            s.add(t[2]);
        }
        s.add(town.start);
        return s;
    }

    int fault() {
        return faultPlace;
    }

    private int pos(List<Integer> s) {
        return s.get(s.size() - 1);
    }

    private int bucketDepth(List<Integer> s, int b) {
        return b == 0 ? pos(s) : town.depth - pos(s);
    }

    private int depthOf(List<Integer> s, int t) {
        int p = s.get(t);
        if (p == IN0 || p == IN1) {
            return bucketDepth(s, p - IN0);
        }
        return p >= POURED ? NONE : p;
    }

    private int weightIn(List<Integer> s, int b) {
        int w = 0;
        for (int t = 0; t < town.things.size(); t++) {
            if (s.get(t) == IN0 + b) {
                w += town.things.get(t)[1];
            }
        }
        return w;
    }

    private boolean served(List<Integer> s, int t) {
        int aim = town.things.get(t)[3];
        return s.get(t) == POURED || aim != NONE && s.get(t) == aim;
    }

    private int broken(List<Integer> s, int b) {
        int[] v = new int[7];
        for (int t = 0; t < town.things.size(); t++) {
            if (s.get(t) == IN0 + b) {
                v[town.things.get(t)[0]]++;
            }
        }
        v[4] = weightIn(s, b);
        v[5] = bucketDepth(s, b);
        v[6] = weightIn(s, 1 - b);
        for (int r = 0; r < town.rules.size(); r++) {
            if (eval(town.rules.get(r), v) == 0) {
                return r;
            }
        }
        return NONE;
    }

    int count(int what) {
        int cost = 0;
        int rides = 0;
        for (Move m : book.row) {
            cost += m.wound;
            rides += m.which == 2 ? 1 : 0;
        }
        int[] all = {town.depth, town.things.size(), town.cap, town.rope, town.needs, town.most, town.brake,
            town.rules.size(), pos(book.state), book.row.size(), rides, cost, book.days.size(), tape.length(),
            book.status[0], book.status[1], book.status[2]};
        if (what < 0 || what >= all.length) {
            throw new NoSuchElementException();
        }
        return all[what];
    }

    private void needThing(int t) {
        if (t < 0 || t >= town.things.size()) {
            throw new NoSuchElementException();
        }
    }

    int thing(int t, int what) {
        needThing(t);
        int[] told = town.things.get(t);
        int place = book.state.get(t);
        int[] all = {told[0], told[1], told[3], depthOf(book.state, t),
            place == IN0 ? 0 : place == IN1 ? 1 : NONE, served(book.state, t) ? 1 : 0};
        if (what < 0 || what >= all.length) {
            throw new NoSuchElementException();
        }
        return all[what];
    }

    int bucket(int b, int what) {
        if (b < 0 || b > 1 || what < 0 || what > 4) {
            throw new NoSuchElementException();
        }
        int bits = 0;
        for (int t = 0; t < town.things.size(); t++) {
            bits += book.state.get(t) == IN0 + b ? 1 << t : 0;
        }
        int depth = bucketDepth(book.state, b);
        int weight = weightIn(book.state, b);
        return new int[] {weight, weight + town.rope * depth, depth, bits, broken(book.state, b)}[what];
    }

    private int loadTrouble(List<Integer> s, int t, int b) {
        if (t < 0 || t >= town.things.size() || b < 0 || b > 1) {
            return 1;
        }
        if (s.get(t) >= IN0 || served(s, t)) {
            return 2;
        }
        return s.get(t) == bucketDepth(s, b) ? 0 : 3;
    }

    private List<Integer> loaded(List<Integer> s, int t, int b) {
        List<Integer> n = new ArrayList<>(s);
        n.set(t, IN0 + b);
        return n;
    }

    private int unloadTrouble(List<Integer> s, int t) {
        if (t < 0 || t >= town.things.size()) {
            return 1;
        }
        return s.get(t) == IN0 || s.get(t) == IN1 ? 0 : 2;
    }

    private List<Integer> unloaded(List<Integer> s, int t) {
        List<Integer> n = new ArrayList<>(s);
        int depth = depthOf(s, t);
        int[] told = town.things.get(t);
        n.set(t, told[0] == 3 && told[3] == depth ? POURED : depth);
        return n;
    }

    private List<Integer> excesses(List<Integer> s, int depth) {
        List<Integer> list = new ArrayList<>();
        int w0 = weightIn(s, 0);
        int w1 = weightIn(s, 1);
        int at = pos(s);
        while (at != depth) {
            int side0 = w0 + town.rope * at;
            int side1 = w1 + town.rope * (town.depth - at);
            list.add(depth > at ? side0 - side1 : side1 - side0);
            at += depth > at ? 1 : -1;
        }
        return list;
    }

    private int rideTrouble(List<Integer> s, int depth, int how) {
        if (depth < 0 || depth > town.depth || how < 0 || how > 2) {
            return 1;
        }
        if (depth == pos(s)) {
            return 3;
        }
        if (weightIn(s, 0) > town.cap || weightIn(s, 1) > town.cap) {
            return 4;
        }
        if (broken(s, 0) != NONE || broken(s, 1) != NONE) {
            return 5;
        }
        if (how == 2) {
            return 0;
        }
        int limit = how == 0 ? town.most : town.most + town.brake;
        for (int e : excesses(s, depth)) {
            if (e < town.needs) {
                return 6;
            }
        }
        for (int e : excesses(s, depth)) {
            if (e > limit) {
                return 7;
            }
        }
        return 0;
    }

    private int cost(List<Integer> s, int depth) {
        int sum = 0;
        for (int e : excesses(s, depth)) {
            if (e < town.needs) {
                sum += town.needs - e;
            } else if (e > town.most + town.brake) {
                sum += e - (town.most + town.brake);
            }
        }
        return sum;
    }

    private List<Integer> ridden(List<Integer> s, int depth) {
        List<Integer> n = new ArrayList<>(s);
        n.set(n.size() - 1, depth);
        return n;
    }

    private int done(int trouble, int which, int target, int manner, int how) {
        int t = trouble == 0 && book.row.size() == 60 ? 8 : trouble;
        if (t != 0) {
            book.status[1]++;
            return t;
        }
        Move m = new Move();
        m.which = which;
        m.target = target;
        m.manner = manner;
        m.before = book.state;
        m.wound = which == 2 && how == 2 ? cost(book.state, target) : 0;
        book.row.add(m);
        book.state = which == 0 ? loaded(book.state, target, manner)
            : which == 1 ? unloaded(book.state, target) : ridden(book.state, target);
        return 0;
    }

    int load(int t, int b) {
        return done(loadTrouble(book.state, t, b), 0, t, b, 0);
    }

    int unload(int t) {
        return done(unloadTrouble(book.state, t), 1, t, 0, 0);
    }

    int ride(int depth, int how) {
        return done(rideTrouble(book.state, depth, how), 2, depth, how, how);
    }

    int winding(int depth) {
        return depth < 0 || depth > town.depth || depth == pos(book.state) ? NONE : cost(book.state, depth);
    }

    int may(int depth) {
        int bits = 0;
        for (int how = 0; how < 3; how++) {
            bits += rideTrouble(book.state, depth, how) == 0 && book.row.size() < 60 ? 1 << how : 0;
        }
        return bits;
    }

    int undo() {
        if (book.row.isEmpty()) {
            return NONE;
        }
        book.state = book.row.remove(book.row.size() - 1).before;
        return book.row.size();
    }

    int moved(int i, int what) {
        if (i < 0 || i >= book.row.size() || what < 0 || what > 2) {
            throw new NoSuchElementException();
        }
        Move m = book.row.get(i);
        return new int[] {m.which, m.target, m.manner}[what];
    }

    int back() {
        int n = 0;
        for (int i = book.row.size() - 1; i >= 0; i--) {
            Move m = book.row.get(i);
            if (m.which != 2) {
                continue;
            }
            if (rideTrouble(ridden(m.before, m.target), pos(m.before), 1) != 0) {
                return n;
            }
            n++;
        }
        return n;
    }

    /** All states that loads and unloads alone lead to. */
    private HashSet<List<Integer>> between(List<Integer> from) {
        HashSet<List<Integer>> seen = new HashSet<>();
        ArrayDeque<List<Integer>> queue = new ArrayDeque<>();
        seen.add(from);
        queue.add(from);
        while (!queue.isEmpty()) {
            List<Integer> s = queue.remove();
            for (int t = 0; t < town.things.size(); t++) {
                for (int b = 0; b < 2; b++) {
                    if (loadTrouble(s, t, b) == 0) {
                        List<Integer> n = loaded(s, t, b);
                        if (seen.add(n)) {
                            queue.add(n);
                        }
                    }
                }
                if (unloadTrouble(s, t) == 0) {
                    List<Integer> n = unloaded(s, t);
                    if (seen.add(n)) {
                        queue.add(n);
                    }
                }
            }
        }
        return seen;
    }

    /** How many STATES there are from the one now on, however many. */
    int states(boolean wound) {
        return explore(book.state, wound, Integer.MAX_VALUE).size();
    }

    /** The least cost to each state behind rides; null: spent. */
    private Map<List<Integer>, Integer> explore(List<Integer> from, boolean wound) {
        return explore(from, wound, 1500);
    }

    private Map<List<Integer>, Integer> explore(List<Integer> from, boolean wound, int most) {
        Map<List<Integer>, Integer> best = new HashMap<>();
        Map<Integer, List<List<Integer>>> waiting = new HashMap<>();
        PriorityQueue<Integer> costs = new PriorityQueue<>();
        best.put(from, 0);
        waiting.computeIfAbsent(0, k -> new ArrayList<>()).add(from);
        costs.add(0);
        HashSet<List<Integer>> settled = new HashSet<>();
        while (!costs.isEmpty()) {
            int c = costs.remove();
            List<List<Integer>> list = waiting.get(c);
            List<Integer> s = list.remove(list.size() - 1);
            if (!settled.add(s)) {
                continue;
            }
            for (List<Integer> laden : between(s)) {
                for (int d = 0; d <= town.depth; d++) {
                    boolean can = rideTrouble(laden, d, wound ? 2 : 1) == 0;
                    if (!can) {
                        continue;
                    }
                    List<Integer> n = ridden(laden, d);
                    int nc = c + (wound ? cost(laden, d) : 1);
                    if (!best.containsKey(n) || nc < best.get(n)) {
                        best.put(n, nc);
                        waiting.computeIfAbsent(nc, k -> new ArrayList<>()).add(n);
                        costs.add(nc);
                        if (best.size() > most) {
                            return null;
                        }
                    }
                }
            }
        }
        return best;
    }

    private boolean allServed(List<Integer> s) {
        for (int t = 0; t < town.things.size(); t++) {
            int aim = town.things.get(t)[3];
            int place = s.get(t);
            if (aim == NONE || place == GONE || served(s, t)) {
                continue;
            }
            if (place != IN0 && place != IN1 || bucketDepth(s, place - IN0) != aim) {
                return false;
            }
        }
        return true;
    }

    private int least(Map<List<Integer>, Integer> best) {
        int least = Integer.MAX_VALUE;
        for (Map.Entry<List<Integer>, Integer> e : best.entrySet()) {
            if (allServed(e.getKey())) {
                least = Math.min(least, e.getValue());
            }
        }
        return least == Integer.MAX_VALUE ? NONE : least;
    }

    int fewest(int what) {
        if (what < 0 || what > 1) {
            throw new NoSuchElementException();
        }
        Map<List<Integer>, Integer> best = explore(book.state, what == 1);
        return best == null ? SPENT : least(best);
    }

    private int reachWithout(int t, int set) {
        List<Integer> s = new ArrayList<>(book.state);
        for (int o = 0; o < town.things.size(); o++) {
            if ((set >> o & 1) != 0) {
                s.set(o, GONE);
            }
        }
        if (served(s, t)) {
            return s.get(t) == POURED ? 0 : 1 << s.get(t);
        }
        Map<List<Integer>, Integer> best = explore(s, false);
        if (best == null) {
            return SPENT;
        }
        int bits = 0;
        for (List<Integer> e : best.keySet()) {
            int d = depthOf(e, t);
            bits |= d == NONE ? 0 : 1 << d;
        }
        return bits;
    }

    int reach(int t) {
        needThing(t);
        return reachWithout(t, 0);
    }

    int bars(int t, int depth) {
        needThing(t);
        if (depth < 0 || depth > town.depth) {
            throw new NoSuchElementException();
        }
        int all = 1 << town.things.size();
        for (int size = 0; size < town.things.size(); size++) {
            for (int set = 0; set < all; set++) {
                if (Integer.bitCount(set) != size || (set >> t & 1) != 0) {
                    continue;
                }
                int reach = reachWithout(t, set);
                if (reach == SPENT) {
                    return SPENT;
                }
                if ((reach >> depth & 1) == 0) {
                    return set;
                }
            }
        }
        return NONE;
    }

    int day(int things) {
        boolean ok = book.days.size() < 6;
        for (int t = 0; t < 32; t++) {
            if ((things >>> t & 1) != 0 && (t >= town.things.size() || town.things.get(t)[3] == NONE)) {
                ok = false;
            }
        }
        if (!ok) {
            book.status[2]++;
            return NONE;
        }
        book.days.add(things);
        return book.days.size();
    }

    int enough(int what) {
        if (what < 0 || what > 1) {
            throw new NoSuchElementException();
        }
        List<Integer> stones = new ArrayList<>();
        for (int t = 0; t < town.things.size(); t++) {
            if (town.things.get(t)[0] == 2) {
                stones.add(t);
            }
        }
        int fails = NONE;
        for (int k = 0; k <= stones.size(); k++) {
            int failing = NONE;
            for (int d = 0; d < book.days.size() && failing == NONE; d++) {
                List<Integer> s = firstState();
                for (int t = 0; t < town.things.size(); t++) {
                    boolean there = (book.days.get(d) >> t & 1) != 0
                        || stones.indexOf(t) >= 0 && stones.indexOf(t) < k;
                    if (!there) {
                        s.set(t, GONE);
                    }
                }
                Map<List<Integer>, Integer> best = explore(s, false);
                if (best == null) {
                    return SPENT;
                }
                failing = least(best) == NONE ? d : NONE;
            }
            if (failing == NONE) {
                return what == 0 ? k : fails;
            }
            fails = failing;
        }
        return NONE;
    }

    void image() {
        image = book.copy();
    }

    boolean restore() {
        if (image == null) {
            return false;
        }
        book = image.copy();
        return true;
    }
}
