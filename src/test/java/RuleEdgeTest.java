/** The edges of EXPRS: what wraps, what is cut, by 0, from the left, the VALUES of each BUCKET; RULES of a RIDE. */
public final class RuleEdgeTest {
    private static final int NONE = RopeTown.NONE;
    // 2 to the 31st wraps to the least int
    private static final String LEAST = "(8192 * 8192 * 32)";
    private static final String MOST = "(8192 * 8192 * 32 - 1)";

    public static void main(String[] args) {
        wraps();
        divides();
        tests();
        truth();
        fromTheLeft();
        binds();
        deepest();
        longest();
        valuesOfEmptyBuckets();
        valuesOfFullBuckets();
        leastRule();
        keptAtTheEdge();
        bothBuckets();
        Check.end("RuleEdgeTest");
    }

    /** Whether an EXPR is of a worth: told by two RULES, one that holds and one that doesn't. */
    private static void worth(String expr, int due) {
        String number = due >= 0 ? "" + due : "(0 - " + -(long) due + ")";
        if (Math.abs((long) due) > 9999) {
            number = "(" + due / 9999 / 9999 + " * 9999 * 9999 + " + due / 9999 % 9999 + " * 9999 + " + due % 9999 + ")";
            number = number.replace("+ -", "- ").replace("(-", "(0 - ");
        }
        RopeTown x = Check.town("rule (" + expr + ") = " + number + ";");
        Check.same(expr + " is " + due, NONE, x.bucket(0, 4));
        RopeTown y = Check.town("rule not (" + expr + ") = " + number + ";");
        Check.same(expr + " is not other than " + due, 0, y.bucket(0, 4));
    }

    /** "ints that wrap". */
    private static void wraps() {
        worth("9999 + 9999", 19998);
        worth("0 - 9999", -9999);
        worth("9999 * 9999", 99980001);
        worth("9999 * 9999 * 21", 2099580021);
        worth("9999 * 9999 * 22", 9999 * 9999 * 22);
        worth("9999 * 9999 * 9999", 9999 * 9999 * 9999);
        worth("9999 * 9999 * 9999 * 9999", 9999 * 9999 * 9999 * 9999);
        worth(LEAST + " = " + LEAST + " + 0", 1);
        worth(LEAST + " < 0", 1);
        worth("0 < " + MOST, 1);
        worth(MOST + " + 1 = " + LEAST, 1);
        worth(MOST + " + 1 < 0", 1);
        worth(LEAST + " - 1 = " + MOST, 1);
        worth("0 - " + LEAST + " = " + LEAST, 1);
        worth(LEAST + " + " + LEAST, 0);
        worth(MOST + " + " + MOST, -2);
        worth(LEAST + " * 2", 0);
        worth(MOST + " * 2", -2);
        worth(MOST + " * " + MOST, 1);
        worth(LEAST + " * " + MOST + " = " + LEAST, 1);
        worth("8192 * 8192 * 64", 0);
        // a wrapped 0 doesn't hold
        Check.same("wrapped to 0", 0, Check.town("rule 8192 * 8192 * 64;").bucket(0, 4));
        Check.same("wrapped below 0 holds", NONE, Check.town("rule " + LEAST + ";").bucket(0, 4));
    }

    /** "/ cut down to 0, by 0 gives 0". */
    private static void divides() {
        worth("7 / 2", 3);
        worth("1 / 2", 0);
        worth("(0 - 7) / 2", -3);
        worth("7 / (0 - 2)", -3);
        worth("(0 - 7) / (0 - 2)", 3);
        worth("(0 - 1) / 2", 0);
        worth("0 / 5", 0);
        worth("5 / 0", 0);
        worth("0 / 0", 0);
        worth("(0 - 5) / 0", 0);
        worth(LEAST + " / 0", 0);
        worth("5 / (3 - 3) + 4", 4);
        worth("9 / weight", 0);
        worth(LEAST + " / (0 - 1) = " + LEAST, 1);
        worth(MOST + " / (0 - 1) = " + LEAST + " + 1", 1);
        worth(LEAST + " / 2 / 8192 / 8192", -16);
        worth(MOST + " / " + LEAST, 0);
        worth(LEAST + " / " + MOST, -1);
    }

    /** "tests .. are 1 or 0". */
    private static void tests() {
        worth("3 < 4", 1);
        worth("4 < 4", 0);
        worth("5 < 4", 0);
        worth("4 = 4", 1);
        worth("4 = 5", 0);
        worth("0 - 1 < 0", 1);
        worth(LEAST + " < " + MOST, 1);
        worth(MOST + " < " + LEAST, 0);
        worth("(3 < 4) + (3 < 4)", 2);
    }

    /** "not, and, or are 1 or 0 (what isn't 0 holds)". */
    private static void truth() {
        int[] some = {0, 1, 2, 9999};
        for (int a : some) {
            worth("not " + a, a == 0 ? 1 : 0);
            worth("not not " + a, a == 0 ? 0 : 1);
            worth("not (0 - " + a + ")", a == 0 ? 1 : 0);
            for (int b : some) {
                worth(a + " and " + b, a != 0 && b != 0 ? 1 : 0);
                worth(a + " or " + b, a != 0 || b != 0 ? 1 : 0);
                worth("(0 - " + a + ") and " + b, a != 0 && b != 0 ? 1 : 0);
            }
            Check.same("a rule of " + a, a == 0 ? 0 : NONE, Check.town("rule " + a + ";").bucket(0, 4));
            // one alone, in parentheses, too, is as it is
            worth("((" + a + "))", a);
        }
        for (int n = 0; n <= 6; n++) {
            worth("not ".repeat(n) + "5", n == 0 ? 5 : n % 2 == 0 ? 1 : 0);
            worth("not ".repeat(n) + "0", n % 2);
        }
    }

    /** "From the left". */
    private static void fromTheLeft() {
        worth("10 - 4 - 3", 3);
        worth("10 - 4 + 3", 9);
        worth("100 / 10 / 5", 2);
        worth("100 / 10 * 5", 50);
        worth("3 * 7 / 2", 10);
        worth("7 / 2 * 3", 9);
        worth("5 / 0 * 3 - 1", -1);
        worth("1 or 0 or 0", 1);
        worth("1 and 0 and 1", 0);
    }

    /** What stands lower in the grammar binds closer. */
    private static void binds() {
        worth("2 + 3 * 4", 14);
        worth("2 * 3 + 4", 10);
        worth("20 - 12 / 4", 17);
        worth("1 + 1 < 3", 1);
        worth("1 < 1 + 1", 1);
        worth("2 * 2 = 3 + 1", 1);
        worth("not 0 = 1", 1);
        worth("not 1 < 2", 0);
        worth("not 1 and 0", 0);
        worth("not 0 or 1", 1);
        worth("not 1 or 1", 1);
        worth("0 and 0 or 1", 1);
        worth("1 or 0 and 0", 1);
        worth("1 or 1 and 0", 1);
        worth("0 and not 0 or 0", 0);
        worth("1 < 2 and 2 < 3", 1);
        worth("5 and 6 = 6", 1);
    }

    /** Six EXPRS within one another, each of which holds back all it can. */
    private static void deepest() {
        StringBuilder zero = new StringBuilder("0");
        StringBuilder one = new StringBuilder("1");
        for (int i = 0; i < 5; i++) {
            zero.insert(0, "0 or 1 and 3 = 2 + 1 * (").append(")");
            one.insert(0, "0 or 1 and 3 = 2 + 1 * (").append(")");
        }
        Check.same("it holds back thirty", NONE, Check.town("rule " + one + ";").bucket(0, 4));
        Check.same("and is 0", 0, Check.town("rule " + zero + ";").bucket(0, 4));
        // each level adds one to what is within it, and counts it by 1: 1 + 1 * (1 + 1 * (..
        StringBuilder six = new StringBuilder("1 + 1 * 1");
        for (int i = 0; i < 4; i++) {
            six.insert(0, "1 + 1 * (").append(")");
        }
        worth(six.toString(), 6);
    }

    /** A text of 600 bytes may be one EXPR; four of them are kept apart. */
    private static void longest() {
        StringBuilder sum = new StringBuilder("rule 0");
        while (sum.length() < 590) {
            sum.append("+1");
        }
        int due = (sum.length() - 6) / 2;
        Check.same("all are added", NONE, Check.town(sum + "=" + due + ";").bucket(0, 4));
        Check.same("each of them", 0, Check.town(sum + "=" + (due - 1) + ";").bucket(0, 4));
        StringBuilder four = new StringBuilder();
        for (int rule = 0; rule < 4; rule++) {
            four.append("rule depth-").append(rule).append("+1".repeat(60)).append("-60;");
        }
        RopeTown x = Check.town("depth 4;" + four);
        for (int depth = 0; depth <= 3; depth++) {
            if (depth > 0) {
                Check.tell(x, "depth 4;start " + depth + ";" + four);
            }
            Check.same("the rule that is 0 at " + depth, depth, x.bucket(0, 4));
        }
    }

    /** 'loads', 'people', 'stones', 'waters', 'weight', 'other' of a BUCKET that is empty; 'depth' at both ends. */
    private static void valuesOfEmptyBuckets() {
        for (String value : new String[] {"loads", "people", "stones", "waters", "weight", "other"}) {
            RopeTown x = Check.town("load 1 at 0;person 1 at 0;stone 1 at 0;water 1 at 0;rule " + value + " = 0;");
            Check.same(value + " of 0", NONE, x.bucket(0, 4));
            Check.same(value + " of 1", NONE, x.bucket(1, 4));
        }
        for (int d = 1; d <= 11; d++) {
            RopeTown x = Check.town("depth " + d + ";rule depth = 0;");
            Check.same("0 at the top", NONE, x.bucket(0, 4));
            Check.same("1 at the bottom", 0, x.bucket(1, 4));
            RopeTown y = Check.town("depth " + d + ";start " + d + ";rule depth = " + d + ";");
            Check.same("0 at the bottom", NONE, y.bucket(0, 4));
            Check.same("1 at the top", 0, y.bucket(1, 4));
        }
    }

    /** Seven of a KIND, of 99 each, in one BUCKET. */
    private static void valuesOfFullBuckets() {
        String[] kinds = {"load", "person", "stone", "water"};
        String[] values = {"loads", "people", "stones", "waters"};
        for (int kind = 0; kind < 4; kind++) {
            String things = (kinds[kind] + " 99 at 0;").repeat(7);
            RopeTown x = Check.town("cap 693;" + things + "rule " + values[kind] + " = 7 and weight = 693 and other = 0;"
                + "rule " + values[(kind + 1) % 4] + " = 0;");
            for (int thing = 0; thing < 7; thing++) {
                Check.same("not yet", 0, x.bucket(0, 4));
                Check.same("loaded", 0, x.load(thing, 0));
            }
            Check.same("all seven", NONE, x.bucket(0, 4));
            Check.same("weight", 693, x.bucket(0, 0));
            Check.same("as bits", 127, x.bucket(0, 3));
            RopeTown y = Check.town(things + "rule other = 693 and " + values[kind] + " = 0 and weight = 0;");
            for (int thing = 0; thing < 7; thing++) {
                y.load(thing, 0);
            }
            Check.same("of the other one", NONE, y.bucket(1, 4));
            Check.same("of that one", 0, y.bucket(0, 4));
        }
    }

    /** "the least number of a RULE that it doesn't keep (NONE)". */
    private static void leastRule() {
        for (int broken = 0; broken < 16; broken++) {
            StringBuilder text = new StringBuilder();
            for (int rule = 0; rule < 4; rule++) {
                text.append("rule ").append((broken >> rule & 1) == 0 ? 1 : 0).append(";");
            }
            int due = broken == 0 ? NONE : Integer.numberOfTrailingZeros(broken);
            RopeTown x = Check.town(text.toString());
            Check.same("rules " + broken, due, x.bucket(0, 4));
            Check.same("rules " + broken, due, x.bucket(1, 4));
            Check.same("ride by them", broken == 0 ? 0 : 5, x.ride(1, 2));
        }
        Check.same("no rules", NONE, Check.town("").bucket(0, 4));
    }

    /** A RULE that is just kept, and just not. */
    private static void keptAtTheEdge() {
        RopeTown x = Check.town("rule weight < 10;load 9 at 0;load 1 at 0;");
        x.load(0, 0);
        Check.same("9 is below 10", NONE, x.bucket(0, 4));
        Check.same("it rides", 7, x.may(1));
        x.load(1, 0);
        Check.same("10 isn't", 0, x.bucket(0, 4));
        Check.same("it doesn't", 5, x.ride(1, 0));
        Check.same("by no how", 0, x.may(1));
        Check.same("nor wound", 5, x.ride(1, 2));
        x.unload(1);
        Check.same("it rides again", 0, x.ride(1, 0));
    }

    /** "A RIDE wants both BUCKETS to keep CAP and all RULES (as they stand ahead of it)." */
    private static void bothBuckets() {
        RopeTown x = Check.town("depth 2;rule depth < 2 or weight = 0;load 9 at 2;load 15 at 0;");
        Check.same("empty ones keep it", NONE, x.bucket(1, 4));
        x.load(1, 0);
        x.load(0, 1);
        Check.same("0 keeps it", NONE, x.bucket(0, 4));
        Check.same("1 doesn't", 0, x.bucket(1, 4));
        Check.same("so no ride", 5, x.ride(1, 0));
        x.unload(0);
        Check.same("it rides", 0, x.ride(2, 0));
        Check.same("where it is it isn't kept", 0, x.bucket(0, 4));
        Check.same("so no way back", 5, x.ride(1, 2));
        Check.same("nor by back", 0, x.back());
    }
}
