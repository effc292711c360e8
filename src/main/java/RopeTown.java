import java.util.Arrays;
import java.util.NoSuchElementException;

/** Two buckets on one rope in the shaft of a steep town: its text, its moves, and what can be served how. */
public final class RopeTown {
    /** There is none. */
    public static final int NONE = -1;

    private static final int SPENT = -2;
    private static final int TAPE_BYTES = 600;
    private static final int FED_AT_ONCE = 20;
    private static final int MOST_DEPTH = 11;
    private static final int MOST_THINGS = 7;
    private static final int MOST_RULES = 4;
    private static final int MOST_MOVES = 60;
    private static final int MOST_DAYS = 6;

    private static final int STONE = 2;
    private static final int WATER = 3;

    private static final int LOADED = 0;
    private static final int UNLOADED = 1;
    private static final int RIDDEN = 2;

    private static final int FREE = 0;
    private static final int BRAKED = 1;
    private static final int WOUND = 2;

    private final byte[] tape;
    private int fed;
    private int faultPlace;
    private final Parser parser;
    private Plan plan;
    // A text is read into the draft, so that one with a FAULT leaves the plan as it is.
    private Plan draft;
    private final Book book;
    private final Book kept;
    private boolean isKept;
    private final Search search;
    private final int[] ways;

    public RopeTown() {
        tape = new byte[TAPE_BYTES];
        fed = 0;
        faultPlace = NONE;
        plan = new Plan();
        draft = new Plan();
        parser = new Parser(draft);
        book = new Book();
        kept = new Book();
        isKept = false;
        search = new Search(plan);
        ways = new int[1 << MOST_THINGS];
        book.begin(plan.firstState());
    }

    public int feed(int a, int b, int c, int d, int e) {
        if (fed + FED_AT_ONCE > TAPE_BYTES) {
            return NONE;
        }
        append(a);
        append(b);
        append(c);
        append(d);
        append(e);
        return fed;
    }

    private void append(int number) {
        for (int shift = 24; shift >= 0 && fed < TAPE_BYTES; shift -= 8) {
            tape[fed] = (byte) (number >> shift);
            fed++;
        }
    }

    public int town(int n) throws IllegalArgumentException {
        if (n < 0 || n > fed) {
            throw new IllegalArgumentException("the tape has not so many bytes");
        }
        fed = 0;
        int found = parser.read(tape, n, draft);
        faultPlace = parser.faultPlace;
        if (found != 0) {
            book.status[0]++;
            return found;
        }
        Plan told = draft;
        draft = plan;
        plan = told;
        book.begin(plan.firstState());
        isKept = false;
        search.forget();
        return 0;
    }

    public int fault() {
        return faultPlace;
    }

    public int count(int what) throws NoSuchElementException {
        switch (what) {
            case 0: return plan.bottom;
            case 1: return plan.things;
            case 2: return plan.cap;
            case 3: return plan.rope;
            case 4: return plan.needs;
            case 5: return plan.most;
            case 6: return plan.brake;
            case 7: return plan.rules.size;
            case 8: return State.depth(book.state);
            case 9: return book.moves;
            case 10: return book.rides;
            case 11: return book.cost;
            case 12: return book.days;
            case 13: return fed;
            case 14: return book.status[0];
            case 15: return book.status[1];
            case 16: return book.status[2];
            default: throw new NoSuchElementException("no such count");
        }
    }

    public int thing(int thing, int what) throws NoSuchElementException {
        if (!plan.has(thing)) {
            throw new NoSuchElementException("no such thing");
        }
        switch (what) {
            case 0: return plan.kind[thing];
            case 1: return plan.weight[thing];
            case 2: return plan.aim[thing];
            case 3: return plan.thingDepth(book.state, thing);
            case 4: return State.bucketOf(book.state, thing);
            case 5: return plan.isServed(book.state, thing) ? 1 : 0;
            default: throw new NoSuchElementException("no such answer of a thing");
        }
    }

    public int bucket(int bucket, int what) throws NoSuchElementException {
        if (bucket < 0 || bucket > 1) {
            throw new NoSuchElementException("no such bucket");
        }
        int depth = plan.bucketDepth(book.state, bucket);
        switch (what) {
            case 0: return plan.weightIn(book.state, bucket);
            case 1: return plan.weightIn(book.state, bucket) + plan.rope * depth;
            case 2: return depth;
            case 3: return State.thingsIn(book.state, bucket);
            case 4: return plan.brokenRule(book.state, bucket);
            default: throw new NoSuchElementException("no such answer of a bucket");
        }
    }

    public int load(int thing, int bucket) {
        int trouble = judged(plan.loadTrouble(book.state, thing, bucket));
        if (trouble == 0) {
            book.note(LOADED, thing, bucket, 0, State.put(book.state, thing, State.IN + bucket));
        }
        return trouble;
    }

    public int unload(int thing) {
        int trouble = judged(plan.unloadTrouble(book.state, thing));
        if (trouble == 0) {
            int place = plan.placeOutside(book.state, thing);
            book.note(UNLOADED, thing, 0, 0, State.put(book.state, thing, place));
        }
        return trouble;
    }

    public int ride(int depth, int how) {
        int trouble = judged(plan.rideTrouble(book.state, depth, how));
        if (trouble == 0) {
            int wound = how == WOUND ? plan.windingTo(book.state, depth) : 0;
            book.note(RIDDEN, depth, how, wound, State.move(book.state, depth));
        }
        return trouble;
    }

    /** A full ROW is the last of the TROUBLES: it tells only where there is no other one. */
    private int judged(int trouble) {
        int found = trouble == 0 && book.moves >= MOST_MOVES ? 8 : trouble;
        if (found != 0) {
            book.status[1]++;
        }
        return found;
    }

    public int winding(int depth) {
        if (!plan.hasDepth(depth) || depth == State.depth(book.state)) {
            return NONE;
        }
        return plan.windingTo(book.state, depth);
    }

    public int may(int depth) {
        if (book.moves >= MOST_MOVES) {
            return 0;
        }
        int hows = 0;
        for (int how = FREE; how <= WOUND; how++) {
            if (plan.rideTrouble(book.state, depth, how) == 0) {
                hows |= 1 << how;
            }
        }
        return hows;
    }

    public int undo() {
        if (book.moves <= 0) {
            return NONE;
        }
        book.takeBack();
        return book.moves;
    }

    public int moved(int i, int what) throws NoSuchElementException {
        if (i < 0 || i >= book.moves) {
            throw new NoSuchElementException("no such move");
        }
        switch (what) {
            case 0: return book.which[i];
            case 1: return book.target[i];
            case 2: return book.manner[i];
            default: throw new NoSuchElementException("no such answer of a move");
        }
    }

    public int back() {
        int ridden = 0;
        for (int i = book.moves - 1; i >= 0; i--) {
            if (book.which[i] == RIDDEN) {
                int behind = State.move(book.before[i], book.target[i]);
                if (plan.rideTrouble(behind, State.depth(book.before[i]), BRAKED) != 0) {
                    break;
                }
                ridden++;
            }
        }
        return ridden;
    }

    public int fewest(int what) throws NoSuchElementException {
        if (what != 0 && what != 1) {
            throw new NoSuchElementException("no such fewest");
        }
        boolean explored = search.explore(plan, book.state, what == 1);
        return explored ? search.leastTillServed() : SPENT;
    }

    public int reach(int thing) throws NoSuchElementException {
        if (!plan.has(thing)) {
            throw new NoSuchElementException("no such thing");
        }
        if (plan.isServed(book.state, thing)) {
            int depth = plan.thingDepth(book.state, thing);
            return depth == NONE ? 0 : 1 << depth;
        }
        return search.explore(plan, book.state, false) ? search.depthsOf(thing) : SPENT;
    }

    public int bars(int thing, int depth) throws NoSuchElementException {
        if (!plan.has(thing) || !plan.hasDepth(depth)) {
            throw new NoSuchElementException("no such thing or depth");
        }
        if (plan.isServed(book.state, thing)) {
            return plan.thingDepth(book.state, thing) == depth ? NONE : 0;
        }
        int known = 0;
        for (int size = 0; size < plan.things; size++) {
            for (int set = 0; set < 1 << plan.things; set++) {
                boolean asked = Integer.bitCount(set) == size && (set >> thing & 1) == 0;
                if (!asked || isSpared(set, known)) {
                    continue;
                }
                if (!search.explore(plan, State.without(book.state, set), false)) {
                    return SPENT;
                }
                int end = search.firstWith(thing, depth);
                if (end == NONE) {
                    return set;
                }
                ways[known] = search.ridersTo(end);
                known++;
            }
        }
        return NONE;
    }

    /**
     * Whether a known way needs none of the set. It can then be gone without them as well, nor are there more STATES
     * without them than with them, where they may just be unloaded and left: so no search has to be made.
     */
    private boolean isSpared(int set, int known) {
        for (int i = 0; i < known; i++) {
            if ((ways[i] & set) == 0) {
                return true;
            }
        }
        return false;
    }

    public int day(int things) {
        if (book.days >= MOST_DAYS || (things & ~plan.thingsWithAims()) != 0) {
            book.status[2]++;
            return NONE;
        }
        book.day[book.days] = things;
        book.days++;
        return book.days;
    }

    public int enough(int what) throws NoSuchElementException {
        if (what != 0 && what != 1) {
            throw new NoSuchElementException("no such enough");
        }
        int fails = NONE;
        int stones = plan.stones();
        for (int k = 0; k <= stones; k++) {
            int failing = firstFailingDay(k);
            if (failing == SPENT) {
                return SPENT;
            }
            if (failing == NONE) {
                return what == 0 ? k : fails;
            }
            fails = failing;
        }
        return NONE;
    }

    private int firstFailingDay(int stones) {
        int stonesThere = plan.firstStones(stones);
        for (int i = 0; i < book.days; i++) {
            int gone = ~(book.day[i] | stonesThere);
            if (!search.explore(plan, State.without(plan.firstState(), gone), false)) {
                return SPENT;
            }
            if (search.leastTillServed() == NONE) {
                return i;
            }
        }
        return NONE;
    }

    public void image() {
        kept.copy(book);
        isKept = true;
    }

    public boolean restore() {
        if (isKept) {
            book.copy(kept);
        }
        return isKept;
    }

    /** A STATE in one int: four bits tell each THING's place, the highest four the DEPTH of BUCKET 0. */
    private static final class State {
        // Places 0 to 11 are DEPTHS.
        private static final int IN = 12;
        private static final int POURED = 14;
        private static final int GONE = 15;
        private static final int DEPTH_SHIFT = 28;
        private static final int NOBODY = 0x0fffffff;

        private static int depth(int state) {
            return state >>> DEPTH_SHIFT;
        }

        private static int move(int state, int depth) {
            return state & NOBODY | depth << DEPTH_SHIFT;
        }

        private static int place(int state, int thing) {
            return state >>> 4 * thing & 15;
        }

        private static int put(int state, int thing, int place) {
            return state & ~(15 << 4 * thing) | place << 4 * thing;
        }

        private static int bucketOf(int state, int thing) {
            int place = place(state, thing);
            return place == IN || place == IN + 1 ? place - IN : NONE;
        }

        private static int thingsIn(int state, int bucket) {
            int set = 0;
            for (int thing = 0; thing < MOST_THINGS; thing++) {
                if (place(state, thing) == IN + bucket) {
                    set |= 1 << thing;
                }
            }
            return set;
        }

        private static int without(int state, int set) {
            int left = state;
            for (int thing = 0; thing < MOST_THINGS; thing++) {
                if ((set >> thing & 1) != 0) {
                    left = put(left, thing, GONE);
                }
            }
            return left;
        }
    }

    /** What a TEXT tells: the shaft, the THINGS at first, the RULES; and what follows from it in a STATE. */
    private static final class Plan {
        private int bottom;
        private int start;
        private int cap;
        private int rope;
        private int needs;
        private int most;
        private int brake;
        private int things;
        private final int[] kind;
        private final int[] weight;
        private final int[] first;
        private final int[] aim;
        private final Rules rules;
        private final int[] values;

        private Plan() {
            kind = new int[MOST_THINGS];
            weight = new int[MOST_THINGS];
            first = new int[MOST_THINGS];
            aim = new int[MOST_THINGS];
            rules = new Rules();
            values = new int[Rules.VALUES];
            clear();
        }

        private void clear() {
            bottom = 1;
            start = 0;
            cap = 99;
            rope = 0;
            needs = 1;
            most = 20;
            brake = 0;
            things = 0;
            rules.clear();
        }

        private boolean has(int thing) {
            return thing >= 0 && thing < things;
        }

        private boolean hasDepth(int depth) {
            return depth >= 0 && depth <= bottom;
        }

        private int firstState() {
            int state = State.move(State.NOBODY, start);
            for (int thing = 0; thing < things; thing++) {
                state = State.put(state, thing, first[thing]);
            }
            return state;
        }

        private int stones() {
            int found = 0;
            for (int thing = 0; thing < things; thing++) {
                found += kind[thing] == STONE ? 1 : 0;
            }
            return found;
        }

        private int firstStones(int stones) {
            int set = 0;
            int found = 0;
            for (int thing = 0; thing < things && found < stones; thing++) {
                if (kind[thing] == STONE) {
                    set |= 1 << thing;
                    found++;
                }
            }
            return set;
        }

        private int thingsWithAims() {
            int set = 0;
            for (int thing = 0; thing < things; thing++) {
                set |= aim[thing] == NONE ? 0 : 1 << thing;
            }
            return set;
        }

        private int bucketDepth(int state, int bucket) {
            return bucket == 0 ? State.depth(state) : bottom - State.depth(state);
        }

        private int thingDepth(int state, int thing) {
            int place = State.place(state, thing);
            if (place < State.IN) {
                return place;
            }
            return place < State.POURED ? bucketDepth(state, place - State.IN) : NONE;
        }

        private int weightIn(int state, int bucket) {
            int sum = 0;
            for (int thing = 0; thing < things; thing++) {
                sum += State.place(state, thing) == State.IN + bucket ? weight[thing] : 0;
            }
            return sum;
        }

        private boolean isServed(int state, int thing) {
            int place = State.place(state, thing);
            return place == aim[thing] || place == State.POURED;
        }

        private boolean isAllServed(int state) {
            for (int thing = 0; thing < things; thing++) {
                int place = State.place(state, thing);
                boolean waits = aim[thing] != NONE && place < State.POURED;
                if (waits && thingDepth(state, thing) != aim[thing]) {
                    return false;
                }
            }
            return true;
        }

        /** Where a THING is as soon as it is in no BUCKET. */
        private int placeOutside(int state, int thing) {
            int place = State.place(state, thing);
            if (place != State.IN && place != State.IN + 1) {
                return place;
            }
            int depth = bucketDepth(state, place - State.IN);
            return kind[thing] == WATER && depth == aim[thing] ? State.POURED : depth;
        }

        private int loadTrouble(int state, int thing, int bucket) {
            if (!has(thing) || bucket < 0 || bucket > 1) {
                return 1;
            }
            if (State.place(state, thing) >= State.IN || isServed(state, thing)) {
                return 2;
            }
            return bucketDepth(state, bucket) == thingDepth(state, thing) ? 0 : 3;
        }

        private int unloadTrouble(int state, int thing) {
            if (!has(thing)) {
                return 1;
            }
            return State.bucketOf(state, thing) == NONE ? 2 : 0;
        }

        private int rideTrouble(int state, int depth, int how) {
            if (!hasDepth(depth) || how < FREE || how > WOUND) {
                return 1;
            }
            if (depth == State.depth(state)) {
                return 3;
            }
            if (weightIn(state, 0) > cap || weightIn(state, 1) > cap) {
                return 4;
            }
            if (brokenRule(state, 0) != NONE || brokenRule(state, 1) != NONE) {
                return 5;
            }
            return how == WOUND ? 0 : excessTrouble(state, depth, how == FREE ? most : most + brake);
        }

        private int excessTrouble(int state, int depth, int limit) {
            int lead = weightIn(state, 0) - weightIn(state, 1);
            int step = depth > State.depth(state) ? 1 : -1;
            int found = 0;
            for (int at = State.depth(state); hasDepth(at) && at != depth; at += step) {
                int excess = excess(lead, at, step);
                if (excess < needs) {
                    return 6;
                }
                found = excess > limit ? 7 : found;
            }
            return found;
        }

        private int windingTo(int state, int depth) {
            int lead = weightIn(state, 0) - weightIn(state, 1);
            int step = depth > State.depth(state) ? 1 : -1;
            int sum = 0;
            for (int at = State.depth(state); hasDepth(at) && at != depth; at += step) {
                sum += windingOf(excess(lead, at, step));
            }
            return sum;
        }

        /** The EXCESS ahead of a step, if what is in BUCKET 0, that is at a DEPTH, has a lead over what is in 1. */
        private int excess(int lead, int at, int step) {
            return step * (lead + rope * (2 * at - bottom));
        }

        private boolean runsByWeight(int excess) {
            return excess >= needs && excess <= most + brake;
        }

        private int windingOf(int excess) {
            if (excess < needs) {
                return needs - excess;
            }
            return excess > most + brake ? excess - most - brake : 0;
        }

        private int brokenRule(int state, int bucket) {
            if (rules.size == 0) {
                return NONE;
            }
            Arrays.fill(values, 0);
            for (int thing = 0; thing < things; thing++) {
                int place = State.place(state, thing);
                if (place == State.IN + bucket) {
                    values[kind[thing]]++;
                    values[Rules.WEIGHT] += weight[thing];
                } else if (place == State.IN + 1 - bucket) {
                    values[Rules.OTHER] += weight[thing];
                }
            }
            values[Rules.DEPTH] = bucketDepth(state, bucket);
            for (int rule = 0; rule < rules.size; rule++) {
                if (rules.worth(rule, values) == 0) {
                    return rule;
                }
            }
            return NONE;
        }
    }

    /** The RULES, each a row in which an operator stands behind what it works on. */
    private static final class Rules {
        // VALUES 0 to 3 are the numbers of each KIND.
        private static final int WEIGHT = 4;
        private static final int DEPTH = 5;
        private static final int OTHER = 6;
        private static final int VALUES = 7;

        private static final int OR = '|';
        private static final int AND = '&';
        private static final int NOT = '!';

        // Six EXPRS within one another hold back five left sides each at most.
        private static final int MOST_HELD = 32;

        private final int[] code;
        private final int[] ends;
        private final int[] held;
        private int length;
        private int size;

        private Rules() {
            code = new int[TAPE_BYTES];
            ends = new int[MOST_RULES];
            held = new int[MOST_HELD];
            clear();
        }

        private void clear() {
            length = 0;
            size = 0;
        }

        private void addNumber(int number) {
            add(number);
        }

        private void addValue(int value) {
            add(-1 - value);
        }

        private void addOperator(int operator) {
            add(-operator);
        }

        private void add(int item) {
            if (length < code.length) {
                code[length] = item;
                length++;
            }
        }

        private void endRule() {
            if (size < ends.length) {
                ends[size] = length;
                size++;
            }
        }

        private int worth(int rule, int[] values) {
            int from = rule == 0 ? 0 : ends[rule - 1];
            int top = 0;
            for (int i = from; i < ends[rule]; i++) {
                int item = code[i];
                if (item >= -VALUES) {
                    if (top < held.length) {
                        held[top] = item >= 0 ? item : values[-1 - item];
                        top++;
                    }
                } else if (item == -NOT) {
                    if (top > 0) {
                        held[top - 1] = held[top - 1] == 0 ? 1 : 0;
                    }
                } else if (top > 1) {
                    top--;
                    held[top - 1] = joined(-item, held[top - 1], held[top]);
                }
            }
            return top > 0 ? held[top - 1] : 0;
        }

        private static int joined(int operator, int left, int right) {
            switch (operator) {
                case '+': return left + right;
                case '-': return left - right;
                case '*': return left * right;
                case '/': return right == 0 ? 0 : left / right;
                case '<': return left < right ? 1 : 0;
                case '=': return left == right ? 1 : 0;
                case AND: return left != 0 && right != 0 ? 1 : 0;
                default: return left != 0 || right != 0 ? 1 : 0;
            }
        }
    }

    /** The words of the language; those that may be a PART have the number of a VALUE. */
    private enum Word {
        DEPTH("depth", Rules.DEPTH), START("start", NONE), CAP("cap", NONE), ROPE("rope", NONE),
        NEEDS("needs", NONE), MOST("most", NONE), BRAKE("brake", NONE), LOAD("load", NONE),
        PERSON("person", NONE), STONE("stone", NONE), WATER("water", NONE), AT("at", NONE), TO("to", NONE),
        RULE("rule", NONE), OR("or", NONE), AND("and", NONE), NOT("not", NONE), LOADS("loads", 0),
        PEOPLE("people", 1), STONES("stones", 2), WATERS("waters", 3), WEIGHT("weight", Rules.WEIGHT),
        OTHER("other", Rules.OTHER), UNKNOWN("", NONE);

        private final String text;
        private final int value;

        Word(String text, int value) {
            this.text = text;
            this.value = value;
        }
    }

    /** Reads a text's TOKENS one by one. */
    private static final class Reader {
        private static final Word[] WORDS = Word.values();
        private static final int MOST_DIGITS = 4;
        private static final int END = 0;
        private static final int WORD = 1;
        private static final int NUMBER = 2;
        private static final int SIGN = 3;
        private static final int NOTHING = 4;

        private byte[] text;
        private int length;
        private int start;
        private int next;
        private int kind;
        private Word word;
        private int number;
        private int sign;

        private Reader() {
            text = new byte[0];
            length = 0;
            start = 0;
            next = 0;
            kind = END;
            word = Word.UNKNOWN;
            number = 0;
            sign = 0;
        }

        private void open(byte[] bytes, int n) {
            text = bytes;
            length = n < bytes.length ? n : bytes.length;
            next = 0;
            advance();
        }

        private void advance() {
            start = next;
            for (int i = next; i < length && (text[i] == 32 || text[i] == 10); i++) {
                start = i + 1;
            }
            word = Word.UNKNOWN;
            sign = 0;
            int wordEnd = rowEnd('a', 'z');
            int numberEnd = rowEnd('0', '9');
            if (start >= length) {
                stop();
            } else if (wordEnd > start) {
                next = wordEnd;
                takeWord();
            } else if (numberEnd > start) {
                next = numberEnd;
                takeNumber();
            } else {
                next = start + 1;
                takeSign();
            }
        }

        /** The text counts as ended behind a FAULT too, which brings all that still reads it to its end. */
        private void stop() {
            kind = END;
            start = length;
            next = length;
            word = Word.UNKNOWN;
            sign = 0;
        }

        private int rowEnd(int low, int high) {
            int end = start;
            for (int i = start; i < length && text[i] >= low && text[i] <= high; i++) {
                end = i + 1;
            }
            return end;
        }

        private void takeWord() {
            kind = WORD;
            for (int i = 0; i < WORDS.length; i++) {
                String spelled = WORDS[i].text;
                boolean isSame = spelled.length() == next - start;
                for (int k = 0; isSame && k < spelled.length(); k++) {
                    isSame = text[start + k] == spelled.charAt(k);
                }
                word = isSame ? WORDS[i] : word;
            }
        }

        /** A NUMBER of too many digits gets NONE, which is never as told. */
        private void takeNumber() {
            kind = NUMBER;
            number = next - start > MOST_DIGITS ? NONE : 0;
            for (int i = start; i < next && number != NONE; i++) {
                number = 10 * number + text[i] - '0';
            }
        }

        private void takeSign() {
            switch (text[start]) {
                case ';': case '(': case ')': case '+': case '-': case '*': case '/': case '<': case '=':
                    kind = SIGN;
                    sign = text[start];
                    break;
                default:
                    kind = NOTHING;
            }
        }
    }

    /** Reads a TOWN into a plan, up to its first FAULT. */
    private static final class Parser {
        private static final int MOST_AROUND = 6;
        private static final int MOST_NOTS = 6;

        // EXPR, AND, NOT, SUM, PRODUCT: each is a row of the next one's, joined by the operators of its own rank.
        private static final int RANK_OR = 0;
        private static final int RANK_AND = 1;
        private static final int RANK_TEST = 2;
        private static final int RANK_SUM = 3;
        private static final int RANK_PRODUCT = 4;

        private final Reader reader;
        private Plan plan;
        private int told;
        private int fault;
        private int faultPlace;

        private Parser(Plan into) {
            reader = new Reader();
            plan = into;
            told = 0;
            fault = 0;
            faultPlace = NONE;
        }

        private int read(byte[] text, int n, Plan into) {
            plan = into;
            plan.clear();
            told = 0;
            fault = 0;
            faultPlace = NONE;
            reader.open(text, n);
            for (int i = 0; i < TAPE_BYTES && reader.kind != Reader.END; i++) {
                clause(i == 0);
            }
            return fault;
        }

        private void fail(int found) {
            if (fault == 0) {
                fault = found;
                faultPlace = reader.start;
                reader.stop();
            }
        }

        private void clause(boolean isFirst) {
            switch (reader.word) {
                case DEPTH: readBottom(isFirst); break;
                case START: plan.start = setting(1, 0, plan.bottom); break;
                case CAP: plan.cap = setting(2, 1, 999); break;
                case ROPE: plan.rope = setting(4, 0, 9); break;
                case NEEDS: plan.needs = setting(8, 0, 99); break;
                case MOST: plan.most = setting(16, 0, 999); break;
                case BRAKE: plan.brake = setting(32, 0, 999); break;
                case LOAD: readThing(0); break;
                case PERSON: readThing(1); break;
                case STONE: readThing(RopeTown.STONE); break;
                case WATER: readThing(RopeTown.WATER); break;
                case RULE: readRule(); break;
                default: fail(1);
            }
            skipSign(';');
        }

        private void readBottom(boolean isFirst) {
            if (!isFirst) {
                fail(4);
            }
            reader.advance();
            plan.bottom = readNumber(1, MOST_DEPTH);
        }

        private int setting(int mark, int least, int most) {
            if ((told & mark) != 0) {
                fail(5);
            }
            told |= mark;
            reader.advance();
            return readNumber(least, most);
        }

        private void readThing(int kind) {
            int thing = plan.things;
            if (thing >= MOST_THINGS) {
                fail(2);
                return;
            }
            plan.things++;
            plan.kind[thing] = kind;
            reader.advance();
            plan.weight[thing] = readNumber(1, 99);
            skipWord(Word.AT);
            plan.first[thing] = readNumber(0, plan.bottom);
            plan.aim[thing] = NONE;
            if (kind != RopeTown.STONE && reader.word == Word.TO) {
                reader.advance();
                plan.aim[thing] = readNumber(0, plan.bottom);
            }
        }

        private void readRule() {
            if (plan.rules.size >= MOST_RULES) {
                fail(2);
            }
            reader.advance();
            expression(0);
            plan.rules.endRule();
        }

        private void expression(int around) {
            if (around < MOST_AROUND) {
                ranked(RANK_OR, around);
                return;
            }
            boolean canStand = reader.kind == Reader.NUMBER || reader.kind == Reader.WORD || reader.sign == '(';
            fail(canStand ? 2 : 1);
        }

        private void ranked(int rank, int around) {
            if (rank > RANK_PRODUCT) {
                part(around);
                return;
            }
            int nots = rank == RANK_TEST ? skipNots() : 0;
            ranked(rank + 1, around);
            int most = rank == RANK_TEST ? 1 : TAPE_BYTES;
            for (int i = 0; i < most && operator(rank) != 0; i++) {
                int operator = operator(rank);
                reader.advance();
                ranked(rank + 1, around);
                plan.rules.addOperator(operator);
            }
            for (int i = 0; i < nots; i++) {
                plan.rules.addOperator(Rules.NOT);
            }
        }

        private int skipNots() {
            int nots = 0;
            for (int i = 0; i <= MOST_NOTS && reader.word == Word.NOT; i++) {
                if (i == MOST_NOTS) {
                    fail(2);
                }
                reader.advance();
                nots++;
            }
            return nots;
        }

        /** The operator of a rank that stands here; 0: there is none. */
        private int operator(int rank) {
            int sign = reader.sign;
            switch (rank) {
                case RANK_OR: return reader.word == Word.OR ? Rules.OR : 0;
                case RANK_AND: return reader.word == Word.AND ? Rules.AND : 0;
                case RANK_TEST: return sign == '<' || sign == '=' ? sign : 0;
                case RANK_SUM: return sign == '+' || sign == '-' ? sign : 0;
                default: return sign == '*' || sign == '/' ? sign : 0;
            }
        }

        private void part(int around) {
            if (reader.kind == Reader.NUMBER) {
                plan.rules.addNumber(readNumber(0, 9999));
            } else if (reader.word.value != NONE) {
                plan.rules.addValue(reader.word.value);
                reader.advance();
            } else if (reader.sign == '(') {
                reader.advance();
                expression(around + 1);
                skipSign(')');
            } else {
                fail(reader.kind == Reader.WORD ? 3 : 1);
            }
        }

        private int readNumber(int least, int most) {
            if (reader.kind != Reader.NUMBER) {
                fail(1);
                return least;
            }
            int number = reader.number;
            if (number < least || number > most) {
                fail(2);
                return least;
            }
            reader.advance();
            return number;
        }

        private void skipWord(Word word) {
            if (reader.word == word) {
                reader.advance();
            } else {
                fail(1);
            }
        }

        private void skipSign(int sign) {
            if (reader.sign == sign) {
                reader.advance();
            } else {
                fail(1);
            }
        }
    }

    /** What AN IMAGE keeps: the STATE, THE ROW with its COST, the DAYS, the STATUS. */
    private static final class Book {
        private int state;
        private int moves;
        private int rides;
        private int cost;
        private int days;
        private final int[] which;
        private final int[] target;
        private final int[] manner;
        private final int[] before;
        private final int[] wound;
        private final int[] day;
        private final int[] status;

        private Book() {
            which = new int[MOST_MOVES];
            target = new int[MOST_MOVES];
            manner = new int[MOST_MOVES];
            before = new int[MOST_MOVES];
            wound = new int[MOST_MOVES];
            day = new int[MOST_DAYS];
            status = new int[3];
        }

        /** STATUS goes on: it counts calls, not what becomes of one town. */
        private void begin(int first) {
            state = first;
            moves = 0;
            rides = 0;
            cost = 0;
            days = 0;
        }

        private void note(int move, int to, int by, int winding, int next) {
            if (moves >= MOST_MOVES) {
                return;
            }
            which[moves] = move;
            target[moves] = to;
            manner[moves] = by;
            before[moves] = state;
            wound[moves] = winding;
            moves++;
            rides += move == RIDDEN ? 1 : 0;
            cost += winding;
            state = next;
        }

        private void takeBack() {
            if (moves <= 0) {
                return;
            }
            moves--;
            rides -= which[moves] == RIDDEN ? 1 : 0;
            cost -= wound[moves];
            state = before[moves];
        }

        private void copy(Book other) {
            state = other.state;
            moves = other.moves;
            rides = other.rides;
            cost = other.cost;
            days = other.days;
            System.arraycopy(other.which, 0, which, 0, MOST_MOVES);
            System.arraycopy(other.target, 0, target, 0, MOST_MOVES);
            System.arraycopy(other.manner, 0, manner, 0, MOST_MOVES);
            System.arraycopy(other.before, 0, before, 0, MOST_MOVES);
            System.arraycopy(other.wound, 0, wound, 0, MOST_MOVES);
            System.arraycopy(other.day, 0, day, 0, MOST_DAYS);
            System.arraycopy(other.status, 0, status, 0, status.length);
        }
    }

    /** All STATES behind RIDES that can be come to from one of them, each with the least it costs. */
    private static final class Search {
        private static final int MOST_STATES = 1500;
        private static final int HEADS = 1024;
        private static final int[] POWERS = {1, 3, 9, 27, 81, 243, 729};
        private static final int LADINGS = 2187;

        private Plan plan;
        private boolean byHand;
        private boolean isSpent;
        private final int[] states;
        private final int[] costs;
        private final int[] parents;
        private int size;
        private final int[] heads;
        private final int[] links;
        // A heap of the STATES that still wait, the cheapest first, and where in it each of them is.
        private final int[] heap;
        private final int[] spots;
        private int waiting;
        private int current;
        private final int[] doors;
        // Two bits for each lading at each DEPTH: whether its RULES were looked at, and whether it keeps them.
        private final int[] verdicts;

        private Search(Plan told) {
            plan = told;
            byHand = false;
            isSpent = false;
            size = 0;
            waiting = 0;
            current = NONE;
            states = new int[MOST_STATES];
            costs = new int[MOST_STATES];
            parents = new int[MOST_STATES];
            heads = new int[HEADS];
            links = new int[MOST_STATES];
            heap = new int[MOST_STATES];
            spots = new int[MOST_STATES];
            doors = new int[MOST_THINGS];
            verdicts = new int[(LADINGS * (MOST_DEPTH + 1) + 15) / 16];
        }

        private void forget() {
            Arrays.fill(verdicts, 0);
            size = 0;
        }

        /** Goes through all STATES, a RIDE costing 1, or its winding if it may be done by hand; false: SPENT. */
        private boolean explore(Plan told, int start, boolean mayWind) {
            // Calls often ask one STATE several things: what was found of it last time still stands.
            if (size > 0 && states[0] == start && byHand == mayWind) {
                return !isSpent;
            }
            plan = told;
            byHand = mayWind;
            isSpent = false;
            size = 0;
            waiting = 0;
            current = NONE;
            Arrays.fill(heads, NONE);
            arrive(start, 0);
            for (int i = 0; i < MOST_STATES && waiting > 0 && !isSpent; i++) {
                current = takeCheapest();
                lade(0, emptied(states[current]), 0, 0, 0);
            }
            return !isSpent;
        }

        /** Notes which BUCKETS each THING could ride in next; the STATE as it is if all are unloaded. */
        private int emptied(int state) {
            int bare = state;
            for (int thing = 0; thing < plan.things; thing++) {
                int depth = plan.thingDepth(state, thing);
                // At its AIM what is unloaded, or lies there, is SERVED: it can't change over.
                boolean isLoose = depth != NONE && depth != plan.aim[thing];
                int in = State.bucketOf(state, thing);
                int open = 0;
                for (int bucket = 0; bucket <= 1; bucket++) {
                    if (in == bucket || isLoose && depth == plan.bucketDepth(state, bucket)) {
                        open |= 1 << bucket;
                    }
                }
                doors[thing] = open;
                bare = State.put(bare, thing, plan.placeOutside(state, thing));
            }
            return bare;
        }

        /** Loads the THINGS from this one on in all ways; the lading is told by digits 0 to 2 as well. */
        private void lade(int thing, int state, int lading, int weight0, int weight1) {
            if (isSpent) {
                return;
            }
            if (thing >= plan.things || thing >= MOST_THINGS) {
                depart(state, lading, weight0 - weight1);
                return;
            }
            lade(thing + 1, state, lading, weight0, weight1);
            int more = plan.weight[thing];
            if ((doors[thing] & 1) != 0 && weight0 + more <= plan.cap) {
                int laden = State.put(state, thing, State.IN);
                lade(thing + 1, laden, lading + POWERS[thing], weight0 + more, weight1);
            }
            if ((doors[thing] & 2) != 0 && weight1 + more <= plan.cap) {
                int laden = State.put(state, thing, State.IN + 1);
                lade(thing + 1, laden, lading + 2 * POWERS[thing], weight0, weight1 + more);
            }
        }

        private void depart(int state, int lading, int lead) {
            int item = lading * (MOST_DEPTH + 1) + State.depth(state);
            int word = item >> 4;
            int shift = 2 * (item & 15);
            if (word >= verdicts.length) {
                return;
            }
            if ((verdicts[word] >>> shift & 1) == 0) {
                boolean keeps = plan.brokenRule(state, 0) == NONE && plan.brokenRule(state, 1) == NONE;
                verdicts[word] |= (keeps ? 3 : 1) << shift;
            }
            if ((verdicts[word] >>> shift & 2) != 0) {
                go(state, lead, 1);
                go(state, lead, -1);
            }
        }

        private void go(int state, int lead, int step) {
            int wound = 0;
            for (int at = State.depth(state); plan.hasDepth(at + step); at += step) {
                int excess = plan.excess(lead, at, step);
                if (!byHand && !plan.runsByWeight(excess)) {
                    return;
                }
                wound += plan.windingOf(excess);
                arrive(State.move(state, at + step), byHand ? wound : 1);
            }
        }

        private void arrive(int state, int more) {
            int cost = current == NONE ? 0 : costs[current] + more;
            int head = state * 0x9e3779b1 >>> 22;
            int found = heads[head];
            for (int i = 0; i < MOST_STATES && found != NONE && states[found] != state; i++) {
                found = links[found];
            }
            if (found == NONE) {
                if (size >= MOST_STATES) {
                    isSpent = true;
                    return;
                }
                found = size;
                size++;
                states[found] = state;
                links[found] = heads[head];
                heads[head] = found;
                spots[found] = waiting;
                waiting++;
            } else if (cost >= costs[found]) {
                return;
            }
            costs[found] = cost;
            parents[found] = current;
            raise(found);
        }

        /** Brings a STATE that became cheaper up to its spot in the heap. */
        private void raise(int index) {
            int spot = spots[index];
            for (int i = 0; i < MOST_STATES && spot > 0; i++) {
                int above = heap[(spot - 1) / 2];
                if (costs[above] <= costs[index]) {
                    break;
                }
                heap[spot] = above;
                spots[above] = spot;
                spot = (spot - 1) / 2;
            }
            heap[spot] = index;
            spots[index] = spot;
        }

        private int takeCheapest() {
            int cheapest = heap[0];
            waiting--;
            int last = heap[waiting];
            int spot = 0;
            for (int i = 0; i < MOST_STATES && 2 * spot + 1 < waiting; i++) {
                int below = 2 * spot + 1;
                if (below + 1 < waiting && costs[heap[below + 1]] < costs[heap[below]]) {
                    below++;
                }
                if (costs[last] <= costs[heap[below]]) {
                    break;
                }
                heap[spot] = heap[below];
                spots[heap[spot]] = spot;
                spot = below;
            }
            heap[spot] = last;
            spots[last] = spot;
            return cheapest;
        }

        private int leastTillServed() {
            int least = NONE;
            for (int i = 0; i < size; i++) {
                boolean better = least == NONE || costs[i] < least;
                if (better && plan.isAllServed(states[i])) {
                    least = costs[i];
                }
            }
            return least;
        }

        private int depthsOf(int thing) {
            int depths = 0;
            for (int i = 0; i < size; i++) {
                int depth = plan.thingDepth(states[i], thing);
                depths |= depth == NONE ? 0 : 1 << depth;
            }
            return depths;
        }

        private int firstWith(int thing, int depth) {
            for (int i = 0; i < size; i++) {
                if (plan.thingDepth(states[i], thing) == depth) {
                    return i;
                }
            }
            return NONE;
        }

        /** All THINGS that rode on the way to a STATE. */
        private int ridersTo(int index) {
            int riders = 0;
            int at = index;
            for (int i = 0; i < size && at > 0; i++) {
                riders |= State.thingsIn(states[at], 0) | State.thingsIn(states[at], 1);
                at = parents[at];
            }
            return riders;
        }
    }
}
