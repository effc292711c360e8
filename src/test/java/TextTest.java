/** Promises 1 to 5: a new object, the tape, the text's language and its FAULTS, counts. */
public final class TextTest {
    private static final int NONE = RopeTown.NONE;
    private static final int BLANKS = 0x20202020;

    public static void main(String[] args) {
        newObject();
        tape();
        tapeOrder();
        townRefused();
        townAnew();
        faultKeepsAll();
        settings();
        things();
        tokens();
        tokenFaults();
        numberFaults();
        tooMany();
        repeated();
        ruleFaults();
        ruleNesting();
        ruleWorth();
        counts();
        Check.end("TextTest");
    }

    private static void newObject() {
        RopeTown x = new RopeTown();
        int[] due = {1, 0, 99, 0, 1, 20, 0, 0, 0, 0, 0, 0, 0, 0, 0, 0, 0};
        for (int what = 0; what < due.length; what++) {
            Check.same("new count " + what, due[what], x.count(what));
        }
        Check.same("new fault", NONE, x.fault());
        Check.same("new undo", NONE, x.undo());
        Check.same("new restore", 0, x.restore() ? 1 : 0);
        Check.same("new bucket 1", 1, x.bucket(1, 2));
        Check.noSuch("new thing", () -> x.thing(0, 0));
    }

    private static void tape() {
        RopeTown x = new RopeTown();
        for (int i = 1; i <= 30; i++) {
            Check.same("feed " + i, 20 * i, x.feed(BLANKS, BLANKS, BLANKS, BLANKS, BLANKS));
        }
        Check.same("feed on a full tape", NONE, x.feed(1, 2, 3, 4, 5));
        Check.same("tape is full", 600, x.count(13));
        Check.same("600 blanks are a town", 0, x.town(600));
        Check.same("tape is empty", 0, x.count(13));
        Check.same("feed goes on", 20, x.feed(BLANKS, BLANKS, BLANKS, BLANKS, BLANKS));
    }

    private static void tapeOrder() {
        RopeTown x = new RopeTown();
        // "cap 7;" and "rope 9;" over four of the numbers, the highest byte of each first
        Check.same("feed", 20, x.feed(0x63617020, 0x373b726f, 0x70652039, 0x3b202020, 0xe92020ff));
        Check.same("town", 0, x.town(16));
        Check.same("cap", 7, x.count(2));
        Check.same("rope", 9, x.count(3));
        x.feed(0x63617020, 0x373b726f, 0x70652039, 0x3b202020, 0xe92020ff);
        Check.same("a byte above 127 is no token", 1, x.town(17));
        Check.same("its place", 16, x.fault());
    }

    private static void townRefused() {
        RopeTown x = Check.town("cap 7;");
        x.feed(BLANKS, BLANKS, BLANKS, BLANKS, BLANKS);
        Check.illegal("n below 0", () -> x.town(-1));
        Check.illegal("n least", () -> x.town(Integer.MIN_VALUE));
        Check.illegal("n above the tape", () -> x.town(21));
        Check.illegal("n most", () -> x.town(Integer.MAX_VALUE));
        Check.same("tape stays", 20, x.count(13));
        Check.same("cap stays", 7, x.count(2));
        Check.same("no status", 0, x.count(14));
        Check.same("town of none", 0, x.town(0));
        Check.same("tape is gone", 0, x.count(13));
        Check.same("cap anew", 99, x.count(2));
        Check.illegal("an empty tape", () -> x.town(1));
        Check.tell(x, "x");
        Check.illegal("behind a fault", () -> x.town(1));
        Check.same("fault stays", 0, x.fault());
    }

    private static void townAnew() {
        RopeTown x = Check.town("depth 4;start 2;cap 8;rope 3;needs 2;most 9;brake 4;load 1 at 2 to 0;rule 1;");
        x.load(0, 0);
        x.ride(3, 2);
        x.load(0, 0);
        x.day(1);
        x.day(2);
        x.image();
        Check.same("moves", 2, x.count(9));
        Check.same("the next town", 0, Check.tell(x, "stone 3 at 1;"));
        int[] due = {1, 1, 99, 0, 1, 20, 0, 0, 0, 0, 0, 0, 0, 0, 0, 1, 1};
        for (int what = 0; what < due.length; what++) {
            Check.same("anew count " + what, due[what], x.count(what));
        }
        Check.same("no image", 0, x.restore() ? 1 : 0);
        Check.same("kind", 2, x.thing(0, 0));
        Check.same("aim", NONE, x.thing(0, 2));
        Check.same("depth", 1, x.thing(0, 3));
    }

    private static void faultKeepsAll() {
        RopeTown x = Check.town("depth 3;load 5 at 0 to 3;rule weight < 50;");
        x.load(0, 0);
        x.ride(2, 0);
        x.day(1);
        x.image();
        Check.same("fault", 5, Check.tell(x, "depth 9;load 1 at 1;rule 0;cap 5;cap 6;"));
        Check.same("place", 33, x.fault());
        int[] due = {3, 1, 99, 0, 1, 20, 0, 1, 2, 2, 1, 0, 1, 0, 1, 0, 0};
        for (int what = 0; what < due.length; what++) {
            Check.same("kept count " + what, due[what], x.count(what));
        }
        Check.same("rule stays", NONE, x.bucket(0, 4));
        Check.same("bucket", 0, x.thing(0, 4));
        Check.same("weight", 5, x.thing(0, 1));
        Check.same("image stays", 1, x.restore() ? 1 : 0);
        Check.same("status is as the image's", 0, x.count(14));
        Check.same("fault() stays", 33, x.fault());
        Check.same("a good one", 0, Check.tell(x, ""));
        Check.same("no fault", NONE, x.fault());
    }

    private static void settings() {
        RopeTown x = Check.town("depth 11;brake 999;most 0;needs 99;rope 9;cap 999;start 11;");
        int[] due = {11, 0, 999, 9, 99, 0, 999, 0, 11};
        for (int what = 0; what < due.length; what++) {
            Check.same("told count " + what, due[what], x.count(what));
        }
        RopeTown y = Check.town("start 1;cap 1;rope 0;needs 0;most 999;brake 0;");
        int[] least = {1, 0, 1, 0, 0, 999, 0, 0, 1};
        for (int what = 0; what < least.length; what++) {
            Check.same("told count " + what, least[what], y.count(what));
        }
        Check.same("depth 1", 1, Check.town("depth 1;").count(0));
        Check.same("depth 0011", 11, Check.town("depth 0011;").count(0));
    }

    private static void things() {
        RopeTown x = Check.town("depth 5;load 1 at 0 to 5;person 99 at 5;stone 7 at 3;water 8 at 4 to 4;water 2 at 1;");
        int[][] due = {{0, 1, 5, 0, NONE, 0}, {1, 99, NONE, 5, NONE, 0}, {2, 7, NONE, 3, NONE, 0},
            {3, 8, 4, 4, NONE, 1}, {3, 2, NONE, 1, NONE, 0}};
        for (int thing = 0; thing < due.length; thing++) {
            for (int what = 0; what < 6; what++) {
                Check.same("thing " + thing + " " + what, due[thing][what], x.thing(thing, what));
            }
        }
    }

    private static void tokens() {
        Check.fault("", 0, 0);
        Check.fault(" \n \n", 0, 0);
        Check.fault("load5at0to1;stone3at1;rule(loads)<2and not people=1;", 0, 0);
        Check.fault("\nload\n5\nat 0\n\nto 1 ; \n", 0, 0);
        Check.fault("rule depth=1or weight*2-other/3+waters<stones;", 0, 0);
    }

    private static void tokenFaults() {
        Check.fault("x", 1, 0);
        Check.fault(";", 1, 0);
        Check.fault("  5", 1, 2);
        Check.fault("cap 5;;", 1, 6);
        Check.fault("Cap 5;", 1, 0);
        Check.fault("caps 5;", 1, 0);
        Check.fault("c ap 5;", 1, 0);
        Check.fault("cap\t5;", 1, 3);
        Check.fault("cap\r5;", 1, 3);
        Check.fault("cap 5", 1, 5);
        Check.fault("cap 5  ", 1, 7);
        Check.fault("cap", 1, 3);
        Check.fault("cap ;", 1, 4);
        Check.fault("cap at;", 1, 4);
        Check.fault("cap -5;", 1, 4);
        Check.fault("cap 5 6;", 1, 6);
        Check.fault("cap 5 66666;", 1, 6);
        Check.fault("66666", 1, 0);
        Check.fault("load 5 at 0 at 1;", 1, 12);
        Check.fault("load 5 to 1;", 1, 7);
        Check.fault("load 5 0;", 1, 7);
        Check.fault("stone 5;", 1, 7);
        Check.fault("xap 5;", 1, 0);
        Check.fault("cax 5;", 1, 0);
        Check.fault("rule xot 1;", 3, 5);
        Check.fault("load 5 at 0 to;", 1, 14);
        Check.fault("load at 0;", 1, 5);
        Check.fault("stone 5 at 0 to 1;", 1, 13);
        Check.fault("cap depth;", 1, 4);
        Check.fault("loads 5 at 0;", 1, 0);
        Check.fault("rule;", 1, 4);
        Check.fault("depth", 1, 5);
        Check.fault("or 1;", 1, 0);
        Check.fault(">", 1, 0);
    }

    private static void numberFaults() {
        Check.fault("depth 0;", 2, 6);
        Check.fault("depth 12;", 2, 6);
        Check.fault("depth 00005;", 2, 6);
        Check.fault("start 2;", 2, 6);
        Check.fault("depth 4;start 5;", 2, 14);
        Check.fault("cap 0;", 2, 4);
        Check.fault("cap 1000;", 2, 4);
        Check.fault("cap 00099;", 2, 4);
        Check.fault("cap 99999999999999999999;", 2, 4);
        Check.fault("rope 10;", 2, 5);
        Check.fault("needs 100;", 2, 6);
        Check.fault("most 1000;", 2, 5);
        Check.fault("brake 1000;", 2, 6);
        Check.fault("load 0 at 0;", 2, 5);
        Check.fault("person 100 at 0;", 2, 7);
        Check.fault("water 5 at 2;", 2, 11);
        Check.fault("water 5 at 1 to 2;", 2, 16);
        Check.fault("stone 5 at 2;", 2, 11);
        Check.fault("depth 2;stone 5 at 2;", 0, 0);
        // the first along the text, though more is wrong behind it
        Check.fault("load 5 at 9 x", 2, 10);
    }

    private static void tooMany() {
        String seven = "load 1 at 0;person 1 at 0;stone 1 at 0;water 1 at 0;load 1 at 1;load 1 at 1;load 1 at 1;";
        Check.fault(seven, 0, 0);
        Check.fault(seven + "load 1 at 0;", 2, seven.length());
        Check.fault(seven + " stone", 2, seven.length() + 1);
        Check.fault(seven + "rule 1;", 0, 0);
        String four = "rule 1;rule 2;rule 3;rule 4;";
        Check.fault(four, 0, 0);
        Check.fault(four + "rule 5;", 2, four.length());
        Check.fault(four + "rule", 2, four.length());
    }

    private static void repeated() {
        Check.fault("cap 5;depth 3;", 4, 6);
        Check.fault("depth 3;depth 3;", 4, 8);
        Check.fault("rule 1;depth", 4, 7);
        Check.fault("start 0;start 1;", 5, 8);
        Check.fault("cap 5;start 0;cap 5;", 5, 14);
        Check.fault("rope 5;rope 5;", 5, 7);
        Check.fault("needs 5;needs 5;", 5, 8);
        Check.fault("most 5;most 5;", 5, 7);
        Check.fault("brake 5;brake x;", 5, 8);
        Check.fault("brake 5;brake", 5, 8);
        Check.fault("cap 5;rope 5;needs 5;most 5;brake 5;start 1;", 0, 0);
    }

    private static void ruleFaults() {
        Check.fault("rule 99999;", 2, 5);
        Check.fault("rule 9999;", 0, 0);
        Check.fault("rule 1 + 00000;", 2, 9);
        Check.fault("rule 1 00000;", 1, 7);
        Check.fault("rule load;", 3, 5);
        Check.fault("rule x;", 3, 5);
        Check.fault("rule and 1;", 3, 5);
        Check.fault("rule 1 + not 1;", 3, 9);
        Check.fault("rule 1 < not 1;", 3, 9);
        Check.fault("rule 1 and not not 1;", 0, 0);
        Check.fault("rule not or;", 3, 9);
        Check.fault("rule 1 or or;", 3, 10);
        Check.fault("rule (rule);", 3, 6);
        Check.fault("rule 1 loads;", 1, 7);
        Check.fault("rule 1 not 1;", 1, 7);
        Check.fault("rule 1 < 2 < 3;", 1, 11);
        Check.fault("rule 1 = 2 < 3;", 1, 11);
        Check.fault("rule (1 < 2) < 3;", 0, 0);
        Check.fault("rule -1;", 1, 5);
        Check.fault("rule ();", 1, 6);
        Check.fault("rule (1;", 1, 7);
        Check.fault("rule (1", 1, 7);
        Check.fault("rule 1);", 1, 6);
        Check.fault("rule 1 +;", 1, 8);
        Check.fault("rule", 1, 4);
        Check.fault("rule 1", 1, 6);
        Check.fault("rule 1 ! 2;", 1, 7);
        Check.fault("rule 1;x", 1, 7);
    }

    private static void ruleNesting() {
        Check.fault("rule (((((1)))));", 0, 0);
        Check.fault("rule ((((((1))))));", 2, 11);
        Check.fault("rule ((((((x", 2, 11);
        Check.fault("rule ((((((not", 2, 11);
        Check.fault("rule ((((((loads", 2, 11);
        Check.fault("rule ((((((11111", 2, 11);
        Check.fault("rule (((((((", 2, 11);
        Check.fault("rule (((((( )", 1, 12);
        Check.fault("rule ((((((;", 1, 11);
        Check.fault("rule ((((((+", 1, 11);
        Check.fault("rule ((((((", 1, 11);
        Check.fault("rule (((((1+(1))))));", 2, 13);
        Check.fault("rule (((((1)))))+(((((2)))));", 0, 0);
        Check.fault("rule not not not not not not 1;", 0, 0);
        Check.fault("rule not not not not not not not 1;", 2, 29);
        Check.fault("rule not not not not not not (not 1);", 0, 0);
        Check.fault("rule not not not not not not 1 and not not not not not not 1;", 0, 0);
        Check.fault("rule 1 or not not not not not not notnot;", 3, 34);
    }

    /** Whether an EXPR holds in an empty BUCKET 0 at DEPTH 2 of 5, where BUCKET 1 is at 3. */
    private static void worth(String expr, boolean holds) {
        RopeTown x = Check.town("depth 5;start 2;rule " + expr + ";");
        Check.same("worth of " + expr, holds ? NONE : 0, x.bucket(0, 4));
    }

    private static void ruleWorth() {
        worth("0", false);
        worth("1", true);
        worth("5 - 6", true);
        worth("2 + 3 * 4 = 14", true);
        worth("(2 + 3) * 4 = 20", true);
        worth("9 - 4 - 3 = 2", true);
        worth("100 / 5 / 2 = 10", true);
        worth("7 / 2 = 3", true);
        worth("(0 - 7) / 2 = 0 - 3", true);
        worth("5 / 0 = 0", true);
        worth("5 / 0 * 3 + 1 = 1", true);
        worth("9999 * 9999 * 9999 * 9999 < 0", 9999 * 9999 * 9999 * 9999 < 0);
        worth("9999 * 9999 * 9999 < 0", 9999 * 9999 * 9999 < 0);
        worth("9999 * 9999 * 22 < 0", 9999 * 9999 * 22 < 0);
        worth("(8192*8192*32) / (0 - 1) = 8192*8192*32", true);
        worth("(1 < 2) = 1", true);
        worth("(2 < 1) = 0", true);
        worth("1 < 1", false);
        worth("(3 = 3) = 1", true);
        worth("(3 = 4) = 0", true);
        worth("(5 and 7) = 1", true);
        worth("(5 or 0) = 1", true);
        worth("(0 or 0) = 0", true);
        worth("(5 and 0) = 0", true);
        worth("not 5", false);
        worth("(not not 5) = 1", true);
        worth("not 0 = 1", true);
        worth("not 1 = 0", true);
        worth("(not 1) = 0", true);
        worth("1 or 0 and 0", true);
        worth("(1 or 0) and 0", false);
        worth("0 and 0 or 1", true);
        worth("not 1 or 1", true);
        worth("not 0 and 0", false);
        worth("depth = 2", true);
        worth("other = 0", true);
        worth("5 - 3 < 3", true);
        worth("1 < 5 - 3", true);
    }

    private static void counts() {
        RopeTown x = Check.town("");
        for (int what : new int[] {-1, 17, 18, Integer.MIN_VALUE, Integer.MAX_VALUE}) {
            Check.noSuch("count " + what, () -> x.count(what));
        }
        Check.tell(x, "x");
        Check.tell(x, "x");
        x.unload(0);
        x.unload(0);
        x.unload(0);
        x.day(1);
        Check.same("texts", 2, x.count(14));
        Check.same("moves", 3, x.count(15));
        Check.same("days", 1, x.count(16));
        Check.same("status goes on behind a town", 0, Check.tell(x, ""));
        Check.same("texts", 2, x.count(14));
        Check.same("moves", 3, x.count(15));
        Check.same("days", 1, x.count(16));
    }
}
