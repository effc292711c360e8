import java.util.Arrays;
import java.util.List;

/** The edges of the FAULTS, by the sentences that tell them, and what a refused TEXT leaves as it was (promises 3, 4). */
public final class FaultEdgeTest {
    private static final int NONE = RopeTown.NONE;
    private static final List<String> VALUES =
        Arrays.asList("loads", "people", "stones", "waters", "weight", "depth", "other");
    private static final String[] WORDS = {"depth", "start", "cap", "rope", "needs", "most", "brake", "load", "person",
        "stone", "water", "at", "to", "rule", "or", "and", "not", "loads", "people", "stones", "waters", "weight",
        "other", "x", "zzzzzzzzzzzz"};
    private static final String[] ONCE = {"start", "cap", "rope", "needs", "most", "brake"};
    private static final String[] HEADS = {"depth", "start", "cap", "rope", "needs", "most", "brake", "load", "person",
        "stone", "water", "rule"};
    private static final String SIGNS = ";()+-*/<=";

    public static void main(String[] args) {
        headsOfClauses();
        whatFollowsAHead();
        exprWithinOthers();
        exprWithinOthersByTheWay();
        notsSideBySide();
        wordsWhereAPartMustStand();
        signsWhereAPartMustStand();
        behindAPart();
        oneTestAlone();
        depthFirst();
        onceEach();
        firstAlongTheText();
        ofOneTokenTheLeast();
        faultKeepsAll();
        placeOfTheLatest();
        Check.end("FaultEdgeTest");
    }

    /** A CLAUSE begins by one of twelve words: any other TOKEN can't stand there. */
    private static void headsOfClauses() {
        for (String word : WORDS) {
            boolean isHead = Arrays.asList(HEADS).contains(word);
            Check.fault(word, 1, isHead ? word.length() : 0);
            Check.fault("rule 1; " + word, word.equals("depth") ? 4 : 1, isHead && !word.equals("depth")
                ? 8 + word.length() : 8);
        }
        for (char sign : SIGNS.toCharArray()) {
            Check.fault(" " + sign, 1, 1);
        }
        Check.fault("0", 1, 0);
    }

    /** Behind a head a NUMBER must stand, behind 'rule' an EXPR: no word or sign can. */
    private static void whatFollowsAHead() {
        for (String head : HEADS) {
            int place = head.length() + 1;
            for (String word : WORDS) {
                boolean isRule = head.equals("rule");
                boolean isPart = isRule && (VALUES.contains(word) || word.equals("not"));
                Check.fault(head + " " + word, isRule && !isPart ? 3 : 1, isPart ? place + word.length() : place);
            }
            for (char sign : SIGNS.toCharArray()) {
                boolean opens = head.equals("rule") && sign == '(';
                Check.fault(head + " " + sign, 1, opens ? place + 1 : place);
            }
        }
        for (String word : WORDS) {
            Check.fault("load 5 " + word, 1, word.equals("at") ? 9 : 7);
            Check.fault("load 5 at " + word, 1, 10);
            Check.fault("load 5 at 0 " + word, 1, word.equals("to") ? 14 : 12);
            Check.fault("load 5 at 0 to " + word, 1, 15);
            Check.fault("load 5 at 0 to 1 " + word, 1, 17);
            Check.fault("stone 5 at 0 " + word, 1, 13);
        }
    }

    /** "the first TOKEN .. of an EXPR within 6 others (a NUMBER, any word, a parenthesis)". */
    private static void exprWithinOthers() {
        for (int n = 0; n <= 8; n++) {
            boolean isGood = n <= 5;
            String open = "rule " + "(".repeat(n);
            String close = ")".repeat(n) + ";";
            Check.fault(open + "1" + close, isGood ? 0 : 2, 11);
            Check.fault(open + "weight" + close, isGood ? 0 : 2, 11);
            Check.fault(open + "not 1" + close, isGood ? 0 : 2, 11);
        }
        String six = "rule ((((((";
        for (String word : WORDS) {
            Check.fault(six + word, 2, 11);
            Check.fault(six + "\n" + word + "))))));", 2, 12);
        }
        for (String number : new String[] {"0", "9999", "10000", "0000000000"}) {
            Check.fault(six + number, 2, 11);
        }
        for (char sign : SIGNS.toCharArray()) {
            Check.fault(six + sign, sign == '(' ? 2 : 1, 11);
        }
        Check.fault(six, 1, 11);
        Check.fault(six + "!", 1, 11);
        Check.fault(six + "A", 1, 11);
        for (String word : WORDS) {
            boolean isPart = VALUES.contains(word) || word.equals("not");
            Check.fault("rule (((((" + word, isPart ? 1 : 3, isPart ? 10 + word.length() : 10);
        }
    }

    /** Wherever the sixth parenthesis is opened; those that are closed again don't count. */
    private static void exprWithinOthersByTheWay() {
        Check.fault("rule (((((1)))))+(((((2)))))*(((((3)))));", 0, 0);
        Check.fault("rule (1+(2*(3<(4 and(5)))));", 0, 0);
        Check.fault("rule (1+(2*(3<(4 and(5 or(6))))));", 2, 26);
        Check.fault("rule (((((1)+(2))+(3))+(4))+(5))+(6);", 0, 0);
        Check.fault("rule (((((1))+((2))))) and ((((((3))))));", 2, 33);
        Check.fault("rule not(not(not(not(not(1)))));", 0, 0);
        Check.fault("rule not(not(not(not(not(not(1))))));", 2, 29);
        Check.fault("rule (((((1)))));rule (((((1)))));", 0, 0);
    }

    /** "the seventh 'not' side by side". */
    private static void notsSideBySide() {
        for (int n = 0; n <= 9; n++) {
            Check.fault("rule " + "not ".repeat(n) + "1;", n <= 6 ? 0 : 2, 29);
            Check.fault("rule 0 or " + "not ".repeat(n) + "1;", n <= 6 ? 0 : 2, 34);
            Check.fault("rule (" + "not ".repeat(n) + "1);", n <= 6 ? 0 : 2, 30);
        }
        String six = "not not not not not not ";
        Check.fault("rule " + six + "not", 2, 29);
        Check.fault("rule " + six, 1, 29);
        Check.fault("rule " + six + ";", 1, 29);
        Check.fault("rule " + six + "x", 3, 29);
        Check.fault("rule " + six + "(" + six + "(" + six + "1));", 0, 0);
        Check.fault("rule " + six + "1 and " + six + "1 or " + six + "1;", 0, 0);
        Check.fault("rule " + six + "1 and " + six + "not 1;", 2, 59);
        Check.fault("rule (((((" + six + "1)))));", 0, 0);
        Check.fault("rule not\nnot\nnot\nnot\nnot\nnot\nnot 1;", 2, 29);
    }

    /** "3 any word where a PART must stand that is no VALUE". */
    private static void wordsWhereAPartMustStand() {
        String[] ahead = {"1 + ", "1 - ", "1 * ", "1 / ", "1 < ", "1 = "};
        for (String word : WORDS) {
            boolean isValue = VALUES.contains(word);
            for (String text : ahead) {
                Check.fault("rule " + text + word + ";", isValue ? 0 : 3, 9);
            }
            boolean isNot = word.equals("not");
            for (String text : new String[] {"", "(", "not ", "0 or ", "0 and "}) {
                String close = text.equals("(") ? ");" : ";";
                // 'not' can stand there: what can't is what comes behind it
                int place = 5 + text.length() + (isNot ? 3 : 0);
                Check.fault("rule " + text + word + close, isValue ? 0 : isNot ? 1 : 3, place);
            }
        }
    }

    /** Signs where a PART must stand, but '(', can't stand there; nor can the text end. */
    private static void signsWhereAPartMustStand() {
        for (String text : new String[] {"", "(", "not ", "0 or ", "0 and ", "1 + ", "1 - ", "1 * ", "1 / ", "1 < ", "1 = "}) {
            String head = "rule " + text;
            for (char sign : SIGNS.toCharArray()) {
                Check.fault(head + sign, 1, head.length() + (sign == '(' ? 1 : 0));
            }
            Check.fault(head, 1, head.length());
        }
    }

    /** Behind a PART an operator, or what ends the EXPR, must stand. */
    private static void behindAPart() {
        for (String part : new String[] {"1", "loads", "(1)"}) {
            String head = "rule " + part + " ";
            for (String word : WORDS) {
                boolean joins = word.equals("or") || word.equals("and");
                Check.fault(head + word, 1, head.length() + (joins ? word.length() : 0));
            }
            for (char sign : SIGNS.toCharArray()) {
                boolean joins = "+-*/<=".indexOf(sign) >= 0;
                Check.fault(head + sign, sign == ';' ? 0 : 1, head.length() + (joins ? 1 : 0));
            }
            Check.fault(head + "5", 1, head.length());
        }
        Check.fault("rule (1;", 1, 7);
        Check.fault("rule (1));", 1, 8);
        Check.fault("rule ((1);", 1, 9);
        Check.fault("rule 1;);", 1, 7);
    }

    /** "SUM [('<' | '=') SUM]": one test, not two. */
    private static void oneTestAlone() {
        for (String first : new String[] {"<", "="}) {
            for (String second : new String[] {"<", "="}) {
                Check.fault("rule 1" + first + "2;", 0, 0);
                Check.fault("rule 1" + first + "2" + second + "3;", 1, 8);
                Check.fault("rule 1" + first + "2 and 1" + second + "3;", 0, 0);
                Check.fault("rule (1" + first + "2)" + second + "3;", 0, 0);
                Check.fault("rule 1" + first + "(2" + second + "3);", 0, 0);
                Check.fault("rule 1" + first + second + "3;", 1, 7);
            }
        }
    }

    /** "4 'depth' that isn't the first CLAUSE". */
    private static void depthFirst() {
        Check.fault("depth 5;", 0, 0);
        Check.fault(" \n depth 5;", 0, 0);
        for (String clause : new String[] {"depth 5;", "start 0;", "cap 5;", "rope 5;", "needs 5;", "most 5;", "brake 5;",
            "load 5 at 0;", "person 5 at 0;", "stone 5 at 0;", "water 5 at 0;", "rule 1;"}) {
            Check.fault(clause + "depth 5;", 4, clause.length());
            Check.fault(clause + " depth", 4, clause.length() + 1);
            Check.fault(clause + "depth 99999 x", 4, clause.length());
            Check.fault(clause + "rule depth;", 0, 0);
        }
    }

    /** "5 a second 'start', 'cap', 'rope', 'needs', 'most', 'brake'". */
    private static void onceEach() {
        StringBuilder all = new StringBuilder();
        for (String name : ONCE) {
            all.append(name).append(" 1;");
        }
        Check.fault(all.toString(), 0, 0);
        for (String name : ONCE) {
            Check.fault(name + " 1;" + name + " 1;", 5, name.length() + 3);
            Check.fault(all + name + " 1;", 5, all.length());
            Check.fault(all + "rule 1; " + name, 5, all.length() + 8);
            Check.fault(name + " 1;load 5 at 0;" + name + " x", 5, name.length() + 15);
            Check.fault(name + " 1;rule " + name + ";", 3, name.length() + 8);
        }
        RopeTown x = Check.town("cap 5;");
        Check.same("the next text tells it anew", 0, Check.tell(x, "cap 6;"));
        Check.same("twice", 5, Check.tell(x, "cap 7;cap 8;"));
        Check.same("behind a fault, too", 0, Check.tell(x, "cap 9;"));
        Check.same("cap", 9, x.count(2));
    }

    /** "FAULTS, the first along the text": what comes behind one is not looked at. */
    private static void firstAlongTheText() {
        Check.fault("cap 1000;x", 2, 4);
        Check.fault("x cap 1000;", 1, 0);
        Check.fault("cap 5;depth 1;cap 5;", 4, 6);
        Check.fault("cap 5;cap 5;depth 1;", 5, 6);
        Check.fault("rule x;cap 0;", 3, 5);
        Check.fault("rule 1;rule 1;rule 1;rule 1;rule load", 2, 28);
        Check.fault("rule 1 x", 1, 7);
        Check.fault("rule 99999 x", 2, 5);
        Check.fault("load 100 at 9 to 9", 2, 5);
        Check.fault("load 10 at 9 to 9", 2, 11);
        Check.fault("load 10 at 1 to 9", 2, 16);
        Check.fault("load 10 at 1 to 1", 1, 17);
    }

    /** "of one TOKEN the least". */
    private static void ofOneTokenTheLeast() {
        String seven = "load 1 at 0;".repeat(7);
        // 2 ahead of 3: any word in an EXPR within 6 others; the seventh 'not', that is no VALUE either
        Check.fault("rule ((((((x", 2, 11);
        Check.fault("rule not not not not not not not", 2, 29);
        // 1 ahead of 2: a NUMBER of five digits, or out of bounds, where none can stand
        Check.fault("99999;", 1, 0);
        Check.fault(seven + "99999", 1, seven.length());
        Check.fault("cap 99999 99999", 2, 4);
        // 'to' of a stone; the D of a second 'depth' isn't even looked at
        Check.fault("stone 1 at 0 to 99999;", 1, 13);
        Check.fault("depth 5;depth 99999;", 4, 8);
        Check.fault("cap 5;cap 99999;", 5, 6);
        // a NUMBER that is both: too many digits, and not as told
        Check.fault("cap 99999;", 2, 4);
        Check.fault("rope 00010;", 2, 5);
    }

    /** "0, or the FAULT (all stays, but STATUS)", for each of the FAULTS; "(it is empty then)" of the tape. */
    private static void faultKeepsAll() {
        String[] texts = {"depth 2;cap 3;load 1 at 0;rule 0;x", "depth 2;start 2;rope 7;stone 1 at 3;",
            "depth 2;needs 0;rule rule;", "depth 2;most 0;water 9 at 2 to 1;depth 3;", "depth 2;brake 1;person 5 at 0;brake"};
        int[] faults = {1, 2, 3, 4, 5};
        int[] places = {33, 34, 21, 33, 30};
        for (int i = 0; i < texts.length; i++) {
            RopeTown x = laden();
            RopeTown y = laden();
            Picture before = Picture.of(x);
            Check.same("fault of " + texts[i], faults[i], Check.tell(x, texts[i]));
            Check.sameText("by " + texts[i], "count 14 0>1, fault -1>" + places[i], before.changesTo(Picture.of(x)));
            while (y.count(9) > 0) {
                Check.same("undo", y.undo(), x.undo());
            }
            Check.sameText("undone", "count 14 0>1, fault -1>" + places[i], Picture.of(y).changesTo(Picture.of(x)));
            Check.same("the image is there", 1, x.restore() ? 1 : 0);
            y.restore();
            Check.sameText("its STATUS, too", "fault -1>" + places[i], Picture.of(y).changesTo(Picture.of(x)));
        }
        RopeTown z = new RopeTown();
        Check.feed(z, "x                   cap 5;");
        Check.same("tape", 40, z.count(13));
        Check.same("fault", 1, z.town(1));
        Check.same("the tape is empty", 0, z.count(13));
    }

    /** "The place of the latest town()'s FAULT; NONE without." */
    private static void placeOfTheLatest() {
        RopeTown x = new RopeTown();
        Check.same("none yet", NONE, x.fault());
        Check.tell(x, "cap 0;");
        Check.same("first", 4, x.fault());
        Check.tell(x, "  x");
        Check.same("second", 2, x.fault());
        Check.tell(x, "x");
        Check.same("0 is a place", 0, x.fault());
        x.image();
        Check.tell(x, "cap 5");
        x.restore();
        Check.same("an image doesn't keep it", 5, x.fault());
        Check.illegal("refused", () -> x.town(-1));
        Check.same("that wasn't a town", 5, x.fault());
        x.load(0, 0);
        x.day(9);
        Check.same("nor are others", 5, x.fault());
        Check.tell(x, "cap 5;");
        Check.same("without", NONE, x.fault());
    }

    private static RopeTown laden() {
        RopeTown x = Check.town("depth 3;start 1;cap 20;rope 1;needs 2;most 9;brake 2;load 5 at 1 to 3;stone 8 at 2;"
            + "rule loads < 2;rule weight < 19;");
        x.load(0, 0);
        x.day(1);
        x.image();
        x.load(1, 1);
        x.ride(2, 2);
        x.day(0);
        return x;
    }
}
