/** The edges of the TEXT: each method stands for a sentence of the document that names some ("Terms", promises 1 to 5). */
public final class TextEdgeTest {
    private static final int NONE = RopeTown.NONE;
    private static final String[] KINDS = {"load", "person", "stone", "water"};
    private static final String[] VALUES = {"loads", "people", "stones", "waters", "weight", "depth", "other"};
    private static final String[] ONCE = {"start", "cap", "rope", "needs", "most", "brake"};
    private static final String[] WORDS = {"depth", "start", "cap", "rope", "needs", "most", "brake", "load", "person",
        "stone", "water", "at", "to", "rule", "or", "and", "not", "loads", "people", "stones", "waters", "weight",
        "other", "x", "loadsx", "rul"};
    private static final String FOUR_RULES = "rule 1;rule 1;rule 1;rule 1;";

    public static void main(String[] args) {
        aNewObject();
        tapeFull();
        tapeTakesAnyByte();
        textOfAllSixHundred();
        bytesBehindN();
        townOfNotSoMany();
        settings();
        numbersOutside();
        depthsUpToBottom();
        weights();
        digits();
        noThingToSeven();
        noRuleToFour();
        everyByteAlone();
        everyByteBehindANumber();
        everyByteInARule();
        blanks();
        longestRow();
        emptyTown();
        everyCut();
        endsTooSoon();
        Check.end("TextEdgeTest");
    }

    /** "D 1, no THINGS", and all that is told as "without". */
    private static void aNewObject() {
        RopeTown x = new RopeTown();
        RopeTown y = Check.town("");
        Check.sameText("a new object is as the empty town", "", Picture.of(y).changesTo(Picture.of(x)));
        int[] counts = {1, 0, 99, 0, 1, 20, 0, 0, 0, 0, 0, 0, 0, 0, 0, 0, 0};
        for (int what = 0; what < counts.length; what++) {
            Check.same("new: count " + what, counts[what], x.count(what));
        }
        for (int what = 0; what <= 4; what++) {
            Check.same("new: bucket 0 " + what, what == 4 ? NONE : 0, x.bucket(0, what));
            Check.same("new: bucket 1 " + what, what == 4 ? NONE : what == 2 ? 1 : 0, x.bucket(1, what));
        }
        Check.same("new: fault", NONE, x.fault());
        Check.same("new: load", 1, x.load(0, 0));
        Check.same("new: unload", 1, x.unload(0));
        Check.same("new: ride by nothing", 6, x.ride(1, 0));
        Check.same("new: wound", 0, x.ride(1, 2));
        Check.same("new: cost", 1, x.count(11));
        Check.same("new: back", 0, x.back());
        Check.noSuch("new: thing", () -> x.thing(0, 0));
        Check.noSuch("new: reach", () -> x.reach(0));
        Check.noSuch("new: bars", () -> x.bars(0, 0));
        Check.same("new: a day of none", 1, x.day(0));
        Check.same("new: a day of one", NONE, x.day(1));
    }

    /** "NONE, and none come, if it would have more than 600." */
    private static void tapeFull() {
        RopeTown x = new RopeTown();
        String text = padded("cap 7;", "rope 3;");
        for (int i = 0; i < 29; i++) {
            feedTwenty(x, text, 20 * i);
        }
        Check.same("580 bytes", 580, x.count(13));
        Check.same("the last twenty are taken", 600, feedTwenty(x, text, 580));
        Check.same("the next are not", NONE, feedTwenty(x, "xxxxxxxxxxxxxxxxxxxx", 0));
        Check.same("nor are blanks", NONE, feedTwenty(x, "                    ", 0));
        Check.same("600 bytes", 600, x.count(13));
        Check.same("none came", 0, x.town(600));
        Check.same("cap", 7, x.count(2));
        Check.same("rope, the last clause", 3, x.count(3));
        Check.same("empty", 0, x.count(13));
        Check.same("and it takes again", 20, feedTwenty(x, text, 0));
        Picture.refused("feed on a full tape", () -> {
            RopeTown y = rich();
            for (int i = 0; i < 30; i++) {
                feedTwenty(y, text, 20 * i);
            }
            return y;
        }, y -> y.feed(1, 2, 3, 4, 5), NONE, NONE);
    }

    /** "Twenty bytes come behind the tape, of each number the highest first": bytes of any worth count. */
    private static void tapeTakesAnyByte() {
        int[] wild = {0, -1, Integer.MIN_VALUE, Integer.MAX_VALUE, 0x80ff7f01};
        for (int number : wild) {
            RopeTown x = new RopeTown();
            Check.same("twenty", 20, x.feed(number, number, number, number, number));
            Check.same("they are a town's first", 1, x.town(1));
            Check.same("at 0", 0, x.fault());
            Check.same("none is left", 0, x.count(13));
        }
        RopeTown y = new RopeTown();
        // "rope 5;" over two numbers behind twelve blanks
        Check.same("feed", 20, y.feed(0x20202020, 0x20202020, 0x20202020, 0x726f7065, 0x20353b00));
        Check.same("but for the last byte", 0, y.town(19));
        Check.same("rope", 5, y.count(3));
    }

    /** "A TEXT of at most 600 bytes": its last byte counts as every other one. */
    private static void textOfAllSixHundred() {
        RopeTown x = new RopeTown();
        String whole = padded("depth 11;", "brake 9;");
        Check.same("it is read to its end", 0, Check.tell(x, whole));
        Check.same("brake", 9, x.count(6));
        Check.fault(whole.substring(0, 599) + " ", 1, 600);
        Check.fault(whole.substring(0, 599) + "x", 1, 599);
        Check.fault(whole.substring(0, 599) + "9", 1, 600);
        Check.fault(whole.substring(0, 599), 1, 599);
        StringBuilder sum = new StringBuilder("rule 1");
        while (sum.length() < 597) {
            sum.append("+1");
        }
        Check.fault(sum + "0;", 0, 0);
        Check.fault(sum + "+1", 1, 600);
        Check.fault(sum + "+;", 1, 599);
        RopeTown y = new RopeTown();
        Check.same("a row of 295 signs", 0, Check.tell(y, sum + "; "));
        Check.same("is kept", NONE, y.bucket(0, 4));
    }

    /** "The tape's first n bytes (it is empty then)": what stands behind them is gone, unread. */
    private static void bytesBehindN() {
        RopeTown x = new RopeTown();
        Check.feed(x, "cap 5;cap 6;xxx");
        Check.same("the first six", 0, x.town(6));
        Check.same("cap", 5, x.count(2));
        Check.same("the rest is gone", 0, x.count(13));
        Check.feed(x, "cap 50;");
        Check.same("a number that is cut", 1, x.town(5));
        Check.same("its place", 5, x.fault());
        Check.same("the rest is gone", 0, x.count(13));
        Check.feed(x, "xxx");
        Check.same("none of them", 0, x.town(0));
        Check.same("all anew", 99, x.count(2));
        Check.same("the rest is gone", 0, x.count(13));
    }

    /** "IllegalArgumentException: the tape has not so many, n below 0 (nothing changes)." */
    private static void townOfNotSoMany() {
        for (int n : new int[] {-1, Integer.MIN_VALUE, 21, 600, 601, Integer.MAX_VALUE}) {
            Picture.refused("town(" + n + ") of 20", () -> {
                RopeTown y = rich();
                feedTwenty(y, "cap 5;              ", 0);
                return y;
            }, y -> y.town(n), Picture.ILLEGAL, NONE);
        }
        for (int n : new int[] {-1, 1}) {
            Picture.refused("town(" + n + ") of none", TextEdgeTest::rich, y -> y.town(n), Picture.ILLEGAL, NONE);
            Picture.refused("town(" + n + ") of a new object", RopeTown::new, y -> y.town(n), Picture.ILLEGAL, NONE);
        }
        RopeTown x = new RopeTown();
        Check.tell(x, "cap x");
        Check.illegal("behind a fault the tape is empty", () -> x.town(1));
        Check.same("the fault's place stays", 4, x.fault());
        RopeTown full = new RopeTown();
        Check.feed(full, padded("", ""));
        Check.illegal("601 of 600", () -> full.town(601));
        Check.same("600 of 600", 0, full.town(600));
    }

    /** The bounds of D, CAP, ROPE, NEEDS, MOST, BRAKE: the last that are taken, the first that aren't; "without". */
    private static void settings() {
        String[] names = {"depth", "cap", "rope", "needs", "most", "brake"};
        int[] counts = {0, 2, 3, 4, 5, 6};
        int[] least = {1, 1, 0, 0, 0, 0};
        int[] most = {11, 999, 9, 99, 999, 999};
        int[] without = {1, 99, 0, 1, 20, 0};
        for (int i = 0; i < names.length; i++) {
            String head = names[i] + " ";
            Check.same(head + "without", without[i], Check.town("").count(counts[i]));
            Check.same(head + "least", least[i], Check.town(head + least[i] + ";").count(counts[i]));
            Check.same(head + "most", most[i], Check.town(head + most[i] + ";").count(counts[i]));
            Check.fault(head + (most[i] + 1) + ";", 2, head.length());
            Check.fault(head + "9999;", 2, head.length());
            if (least[i] > 0) {
                Check.fault(head + (least[i] - 1) + ";", 2, head.length());
                Check.fault(head + "0000;", 2, head.length());
            }
        }
        Check.same("start without", 0, Check.town("depth 5;").count(8));
    }

    /** "a NUMBER .. not as told" is FAULT 2 whatever comes behind it, and leaves the town as it was. */
    private static void numbersOutside() {
        for (String text : new String[] {"depth 12", "depth 0 x", "cap 1000;x", "rope 10", "needs 100;needs", "most 1000",
            "brake 1000", "start 2;"}) {
            int place = text.indexOf(' ') + 1;
            RopeTown x = rich();
            Picture before = Picture.of(x);
            Check.same("fault of " + text, 2, Check.tell(x, text));
            Check.sameText("by " + text, "count 14 1>2, fault 0>" + place, before.changesTo(Picture.of(x)));
        }
    }

    /** "a DEPTH above D": up to D it is taken, wherever one is told; D is 1 without. */
    private static void depthsUpToBottom() {
        Check.fault("start 1;", 0, 0);
        Check.fault("start 2;", 2, 6);
        Check.fault("load 1 at 1 to 1;", 0, 0);
        Check.fault("load 1 at 2;", 2, 10);
        for (int d = 1; d <= 11; d++) {
            String head = "depth " + d + ";";
            Check.same("start", d, Check.town(head + "start " + d + ";").count(8));
            Check.same("start", 0, Check.town(head + "start " + d + ";").bucket(1, 2));
            Check.fault(head + "start " + (d + 1) + ";", 2, head.length() + 6);
            for (String kind : KINDS) {
                String thing = head + kind + " 1 at ";
                Check.same("at", d, Check.town(thing + d + ";").thing(0, 3));
                Check.same("at", 0, Check.town(thing + "0;").thing(0, 3));
                Check.fault(thing + (d + 1) + ";", 2, thing.length());
                if (!kind.equals("stone")) {
                    String aimed = thing + "0 to ";
                    Check.same("to", d, Check.town(aimed + d + ";").thing(0, 2));
                    Check.same("to", 0, Check.town(aimed + "0;").thing(0, 2));
                    Check.fault(aimed + (d + 1) + ";", 2, aimed.length());
                }
            }
        }
        Check.fault("stone 1 at 0 to 0;", 1, 13);
    }

    /** "a WEIGHT (1 to 99)". */
    private static void weights() {
        for (String kind : KINDS) {
            Check.same(kind, 1, Check.town(kind + " 1 at 0;").thing(0, 1));
            Check.same(kind, 99, Check.town(kind + " 99 at 0;").thing(0, 1));
            Check.fault(kind + " 0 at 0;", 2, kind.length() + 1);
            Check.fault(kind + " 100 at 0;", 2, kind.length() + 1);
        }
    }

    /** "NUMBERS (1 to 4 digits)", "a NUMBER of 5 digits or more": by its digits, not by its worth. */
    private static void digits() {
        Check.same("four", 7, Check.town("cap 0007;").count(2));
        Check.fault("cap 00007;", 2, 4);
        Check.fault("rope 0000;", 0, 0);
        Check.fault("rope 00000;", 2, 5);
        Check.fault("rule 0000;", 0, 0);
        Check.fault("rule 00000;", 2, 5);
        Check.fault("rule 9999;", 0, 0);
        Check.fault("rule 10000;", 2, 5);
        Check.fault("rule 1 + 10000;", 2, 9);
        Check.fault("rule (10000);", 2, 6);
        Check.fault("rule 4294967297;", 2, 5);
        Check.fault("cap 4294967301;", 2, 4);
        Check.fault("load 00001 at 0;", 2, 5);
        Check.fault("load 1 at 00000;", 2, 10);
        Check.fault("load 1 at 0 to 00000;", 2, 15);
        Check.fault("depth 00001;", 2, 6);
        // of one TOKEN the least: where no NUMBER can stand, it can't stand
        Check.fault("10000", 1, 0);
        Check.fault("cap 10000 ", 2, 4);
        Check.fault("cap 5 10000;", 1, 6);
        Check.fault("load 1 10000 0;", 1, 7);
        Check.fault("rule 1 10000;", 1, 7);
        Check.fault("rule (1) 10000;", 1, 9);
    }

    /** "THINGS 0, 1 .. (at most 7)", "the first TOKEN of the 8th THING". */
    private static void noThingToSeven() {
        StringBuilder text = new StringBuilder();
        for (int n = 0; n < 7; n++) {
            Check.same("things", n, Check.town(text.toString()).count(1));
            text.append(KINDS[n % 4]).append(" ").append(n + 1).append(" at ").append(n % 2).append(";");
        }
        RopeTown x = Check.town(text.toString());
        Check.same("things", 7, x.count(1));
        for (int thing = 0; thing < 7; thing++) {
            Check.same("kind " + thing, thing % 4, x.thing(thing, 0));
            Check.same("weight " + thing, thing + 1, x.thing(thing, 1));
            Check.same("depth " + thing, thing % 2, x.thing(thing, 3));
        }
        Check.noSuch("no eighth", () -> x.thing(7, 0));
        int length = text.length();
        for (String kind : KINDS) {
            Check.fault(text + kind + " 1 at 0;", 2, length);
            Check.fault(text + "\n " + kind, 2, length + 2);
            Check.fault(text + kind + " 100000 x", 2, length);
            Check.fault(text + kind + "x 1 at 0;", 1, length);
        }
        Check.fault(text + "rule 1;cap 5;", 0, 0);
    }

    /** "At most 4 RULES", "the first TOKEN .. of the 5th RULE". */
    private static void noRuleToFour() {
        for (int n = 0; n <= 4; n++) {
            Check.same("rules", n, Check.town(FOUR_RULES.substring(0, 7 * n)).count(7));
        }
        Check.fault(FOUR_RULES + "rule 1;", 2, 28);
        Check.fault(FOUR_RULES + " rule", 2, 29);
        Check.fault(FOUR_RULES + "rule x", 2, 28);
        Check.fault(FOUR_RULES + "rules 1;", 1, 28);
        Check.fault(FOUR_RULES + "cap 5;load 1 at 0;", 0, 0);
        RopeTown x = Check.town("rule 1;rule 2;rule 3;rule 0;");
        Check.same("the fourth is looked at", 3, x.bucket(0, 4));
    }

    /** "a TOKEN that can't stand there, or is none": no byte can stand alone, but a blank. */
    private static void everyByteAlone() {
        for (int b = 0; b < 256; b++) {
            String text = String.valueOf((char) b);
            boolean isBlank = b == 32 || b == 10;
            Check.fault(text, isBlank ? 0 : 1, 0);
            Check.fault("cap 5;" + text, isBlank ? 0 : 1, 6);
        }
    }

    private static void everyByteBehindANumber() {
        for (int b = 0; b < 256; b++) {
            String text = "cap 5" + (char) b + ";";
            boolean isGood = b == 32 || b == 10 || b >= '0' && b <= '9';
            Check.fault(text, isGood ? 0 : 1, b == ';' ? 6 : 5);
            String split = "c" + (char) b + "ap 5;";
            Check.fault(split, 1, 0);
        }
    }

    private static void everyByteInARule() {
        for (int b = 0; b < 256; b++) {
            char c = (char) b;
            boolean isSign = "+-*/<=".indexOf(c) >= 0;
            boolean isDigit = c >= '0' && c <= '9';
            boolean isBlank = b == 32 || b == 10;
            Check.fault("rule 1" + c + "1;", isSign || isDigit ? 0 : 1, isBlank || c == ';' ? 7 : 6);
            boolean isLetter = c >= 'a' && c <= 'z';
            boolean isPart = isDigit || isBlank;
            // '(' opens what is then not closed
            Check.fault("rule " + c + "1;", isPart ? 0 : isLetter ? 3 : 1, c == '(' ? 7 : 5);
        }
    }

    /** "blanks (32, 10) between them count for nothing": between TOKENS, not within them. */
    private static void blanks() {
        RopeTown x = Check.town(" \n\ndepth\n 5 ;\n\n  start 2\n;load\n9 at 5\n\nto 0 ; \n\n");
        Check.same("start", 2, x.count(8));
        Check.same("aim", 0, x.thing(0, 2));
        Check.fault("cap 1 2;", 1, 6);
        Check.fault("de pth 5;", 1, 0);
        Check.fault("rule wei ght;", 3, 5);
        Check.fault("rule peop\nle;", 3, 5);
        Check.fault("rule 1 \n", 1, 8);
        Check.fault("\n\n;", 1, 2);
    }

    /** "words (a .. z, the longest row)". */
    private static void longestRow() {
        Check.fault("cap5;rope9;load9at1to0;", 0, 0);
        Check.fault("load9at1to0;stone5at0;rule 1or 0and 1;", 0, 0);
        Check.fault("loadat 9;", 1, 0);
        Check.fault("load 9 atto 1;", 1, 7);
        Check.fault("rule notnot 1;", 3, 5);
        Check.fault("rule 1 orx 1;", 1, 7);
        Check.fault("rule loadsx;", 3, 5);
        Check.fault("rule loads5;", 1, 10);
        Check.fault("rulerule 1;", 1, 0);
    }

    /** "TOWN: CLAUSE*": none at all, of no byte, of blanks alone. */
    private static void emptyTown() {
        for (String text : new String[] {"", " ", "\n", padded("", "")}) {
            RopeTown x = rich();
            Check.same("empty", 0, Check.tell(x, text));
            int[] due = {1, 0, 99, 0, 1, 20, 0, 0, 0, 0, 0, 0, 0, 0};
            for (int what = 0; what < due.length; what++) {
                Check.same("empty: count " + what, due[what], x.count(what));
            }
            Check.same("no fault", NONE, x.fault());
            Check.same("no image", 0, x.restore() ? 1 : 0);
        }
    }

    /** Wherever a text is cut, or a word is put in, it is as the slow model reads it. */
    private static void everyCut() {
        String[] texts = {
            "depth 11;start 11;cap 999;rope 9;needs 99;most 999;brake 999;load 99 at 11 to 0;person 1 at 0;",
            "stone 1 at 1;water 9 at 0 to 1;rule not (loads < 2 or people = 1) and weight + 3 * depth - other / 2;",
            "rule ((((((1))))));rule not not not not not not not 1;" + FOUR_RULES, FOUR_RULES + "rule 1;",
        };
        for (String text : texts) {
            for (int n = 0; n <= text.length(); n++) {
                asModel(text.substring(0, n));
                asModel(text.substring(n));
                for (String word : WORDS) {
                    asModel(text.substring(0, n) + " " + word + " " + text.substring(n));
                }
            }
        }
    }

    private static void asModel(String text) {
        RopeTown x = new RopeTown();
        Model model = new Model();
        for (int from = 0; from < text.length(); from += 20) {
            int[] five = new int[5];
            for (int i = 0; i < 20; i++) {
                int b = from + i < text.length() ? text.charAt(from + i) : ' ';
                five[i / 4] = five[i / 4] << 8 | b;
            }
            model.feed(five);
        }
        Check.same("fault of \"" + text + "\"", model.town(text.length()), Check.tell(x, text));
        Check.same("its place in \"" + text + "\"", model.fault(), x.fault());
    }

    /** "the text's length where it ends too soon": behind each TOKEN that is not a CLAUSE's last. */
    private static void endsTooSoon() {
        String[] clauses = {"depth 5 ;", "start 1 ;", "cap 5 ;", "rope 5 ;", "needs 5 ;", "most 5 ;", "brake 5 ;",
            "load 5 at 1 to 1 ;", "person 5 at 1 to 0 ;", "water 5 at 0 to 1 ;", "stone 5 at 0 ;",
            "rule 1 ;", "rule not 1 < ( 2 + 3 ) * 4 - 5 / 6 and loads = 7 or other ;"};
        for (String clause : clauses) {
            Check.fault(clause, 0, 0);
            for (int end = clause.indexOf(' '); end >= 0; end = clause.indexOf(' ', end + 1)) {
                Check.fault(clause.substring(0, end), 1, end);
                Check.fault(clause.substring(0, end) + " \n ", 1, end + 3);
            }
        }
        for (String value : VALUES) {
            Check.fault("rule " + value + ";", 0, 0);
            Check.fault("rule " + value, 1, 5 + value.length());
        }
        for (String name : ONCE) {
            Check.fault(name, 1, name.length());
        }
    }

    /** A town in which all that an object keeps is not as at first. */
    private static RopeTown rich() {
        RopeTown x = Check.town("depth 4;start 1;cap 30;rope 1;needs 2;most 15;brake 3;load 5 at 1 to 3;stone 9 at 3;"
            + "water 4 at 1 to 2;person 3 at 0;rule people < 2;rule weight < 25;");
        x.load(0, 0);
        x.load(2, 0);
        x.ride(2, 2);
        x.unload(2);
        x.day(1);
        x.day(5);
        x.image();
        x.load(1, 1);
        x.ride(3, 2);
        x.unload(0);
        x.load(1, 0);
        x.day(4);
        x.day(2);
        Check.tell(x, "x");
        return x;
    }

    private static String padded(String head, String tail) {
        StringBuilder text = new StringBuilder(head);
        while (text.length() < 600 - tail.length()) {
            text.append(text.length() % 7 == 0 ? '\n' : ' ');
        }
        return text.append(tail).toString();
    }

    private static int feedTwenty(RopeTown x, String text, int from) {
        int[] five = new int[5];
        for (int i = 0; i < 20; i++) {
            five[i / 4] = five[i / 4] << 8 | text.charAt(from + i);
        }
        return x.feed(five[0], five[1], five[2], five[3], five[4]);
    }
}
