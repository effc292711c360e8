/** The edges of STATES, REACH, BARS, DAYS, ENOUGH, STATUS and AN IMAGE, by their sentences (promises 16 to 22). */
public final class SearchEdgeTest {
    private static final int NONE = RopeTown.NONE;
    private static final int SPENT = -2;
    private static final int[] FAR = {-1, -2, Integer.MIN_VALUE, Integer.MIN_VALUE + 1, Integer.MAX_VALUE, 1 << 16};
    // By weight exactly as many STATES as may be, and one more; each DAY of all three asks as many.
    private static final String JUST = "depth 7;load 6 at 0 to 2;load 2 at 4 to 5;load 1 at 0 to 2;";
    private static final String ONE_MORE = "depth 8;load 3 at 4 to 8;load 1 at 0 to 4;load 2 at 0 to 4;";
    private static final String SHAFT = "depth 3;start 1;cap 20;rope 1;needs 2;most 9;brake 2;load 5 at 1 to 3;"
        + "stone 8 at 2;water 4 at 1 to 1;person 30 at 1;rule loads < 2;";

    public static void main(String[] args) {
        statesByWeight();
        statesByHand();
        oneNowCounted();
        oneNowCountedByHand();
        countedOnce();
        spentWhateverIsServed();
        fewestOfNothing();
        fewestOfAnother();
        neverServed();
        fewestInABucket();
        servedStays();
        reachOfEnds();
        reachOfServed();
        reachOfNoThing();
        barsOfSizes();
        barsOfAsSmall();
        barsOfNoDepth();
        barsOfTheOnlyOne();
        daysUpToSix();
        daysRefused();
        dayOfTheSeventh();
        enoughOfNothing();
        enoughOfAllStones();
        enoughSpent();
        enoughOfAnother();
        statusEach();
        noImage();
        imageOfAFullRow();
        imageInPlaceOfAnother();
        goodTownTakesAll();
        Check.end("SearchEdgeTest");
    }

    private static int states(String text, boolean byHand) {
        Model model = new Model();
        tell(model, text);
        return model.states(byHand);
    }

    private static void tell(Model model, String text) {
        for (int from = 0; from < text.length(); from += 20) {
            int[] five = new int[5];
            for (int i = 0; i < 20; i++) {
                int b = from + i < text.length() ? text.charAt(from + i) : ' ';
                five[i / 4] = five[i / 4] << 8 | b;
            }
            model.feed(five);
        }
        Check.same("the model's town", 0, model.town(text.length()));
    }

    /** "SPENT: if there are more than 1500 STATES .. to which such RIDES lead at all." */
    private static void statesByWeight() {
        Check.same("as many as may be", 1500, states(JUST, false));
        Check.same("one more", 1501, states(ONE_MORE, false));
        RopeTown x = Check.town(JUST);
        Check.same("fewest", 3, x.fewest(0));
        Check.same("reach", 0b11111111, x.reach(0));
        Check.same("bars", NONE, x.bars(0, 7));
        Check.same("where it is", NONE, x.bars(0, 0));
        RopeTown y = Check.town(ONE_MORE);
        Check.same("fewest", SPENT, y.fewest(0));
        for (int thing = 0; thing < 3; thing++) {
            Check.same("reach", SPENT, y.reach(thing));
            for (int depth = 0; depth <= 8; depth++) {
                Check.same("bars", SPENT, y.bars(thing, depth));
            }
        }
    }

    /** The same if they may be WOUND, too. */
    private static void statesByHand() {
        String just = "depth 1;load 4 at 0 to 1;load 4 at 0 to 1;load 5 at 0 to 1;load 2 at 0 to 1;load 2 at 0 to 1;"
            + "rule weight - other < 7;";
        Check.same("as many as may be", 1500, states(just, true));
        Check.same("three go down at least", 0, Check.town(just).fewest(1));
        Check.same("(D + 1) * (D + 3) by thing", 10 * 12 * 12, states("depth 9;stone 1 at 0;stone 1 at 0;", true));
        Check.same("1440", 0, Check.town("depth 9;stone 1 at 0;stone 1 at 0;").fewest(1));
        Check.same("1859", SPENT, Check.town("depth 10;stone 1 at 0;stone 1 at 0;").fewest(1));
        Check.same("by weight there are few of them", 0, Check.town("depth 10;stone 1 at 0;stone 1 at 0;").fewest(0));
    }

    /** "(.. the one now counted, too)": what is too heavy to ride is loaded, and so there is one STATE more. */
    private static void oneNowCounted() {
        String text = "depth 5;needs 0;cap 98;person 3 at 3 to 0;stone 5 at 2;stone 8 at 1;stone 99 at 0;";
        Check.same("it lies there", 1500, states(text, false));
        RopeTown x = Check.town(text);
        int fewest = x.fewest(0);
        Check.same("it can be", 1, fewest > 0 ? 1 : 0);
        Check.same("reach", 0b111111, x.reach(0));
        Check.same("reach of the heavy one", 1, x.reach(3));
        Check.same("bars", 1, x.bars(0, 5) != SPENT ? 1 : 0);
        x.load(3, 0);
        Check.same("1501", SPENT, x.fewest(0));
        Check.same("1501", SPENT, x.reach(0));
        Check.same("1501", SPENT, x.reach(3));
        Check.same("1501", SPENT, x.bars(0, 5));
        x.unload(3);
        Check.same("1500 again", fewest, x.fewest(0));
        Check.same("1500 again", 1, x.reach(3));
        RopeTown y = Check.town(JUST + "stone 99 at 0;cap 98;");
        y.load(3, 0);
        Check.same("the first one is no more: none leads back to it", 3, y.fewest(0));
    }

    /** An empty rope that may not ride: the first STATE is none behind a RIDE, but is counted. */
    private static void oneNowCountedByHand() {
        String text = "cap 6;rule 0 < weight + other;load 5 at 0 to 1;stone 2 at 0;stone 2 at 0;stone 1 at 0;stone 1 at 0;";
        Check.same("with the first one", 1501, states(text, true));
        RopeTown x = Check.town(text);
        Check.same("1501", SPENT, x.fewest(1));
        x.load(1, 0);
        Check.same("laden it is as behind a RIDE", 0, x.fewest(1));
        Check.same("ride", 0, x.ride(1, 0));
        Check.same("behind a RIDE it is, too", 0, x.fewest(1));
        x.undo();
        x.undo();
        Check.same("1501 again", SPENT, x.fewest(1));
    }

    /** A STATE to which many RIDES lead, the one now, too, is one. */
    private static void countedOnce() {
        for (int depth = 1; depth <= 11; depth++) {
            String text = "depth " + depth + ";needs 0;";
            Check.same("depths alone", depth + 1, states(text, false));
            Check.same("not spent", 0, Check.town(text).fewest(0));
        }
    }

    /** "to which such RIDES lead at all": also if ALL IS SERVED now, or by few RIDES. */
    private static void spentWhateverIsServed() {
        RopeTown x = Check.town("depth 11;needs 0;most 999;stone 1 at 0;stone 2 at 0;stone 3 at 0;load 5 at 1 to 1;");
        Check.same("nothing is to do", SPENT, x.fewest(0));
        Check.same("nothing is to do", SPENT, x.fewest(1));
        Check.same("what is served is told whatever else", 2, x.reach(3));
        Check.same("what is served is told whatever else", NONE, x.bars(3, 1));
        Check.same("what is served is told whatever else", 0, x.bars(3, 2));
        Check.same("what isn't, isn't", SPENT, x.reach(0));
        Check.same("where it is, too", SPENT, x.bars(0, 0));
    }

    /** 0 RIDES, where nothing is to be brought. */
    private static void fewestOfNothing() {
        for (String text : new String[] {"", "stone 5 at 0;", "load 5 at 0;", "load 5 at 1 to 1;", "water 5 at 0 to 0;",
            "rule 0;", "rule 0;person 5 at 1 to 1;"}) {
            RopeTown x = Check.town(text);
            Check.same("fewest 0 of " + text, 0, x.fewest(0));
            Check.same("fewest 1 of " + text, 0, x.fewest(1));
        }
    }

    /** "NoSuchElementException: another what." */
    private static void fewestOfAnother() {
        for (int far : FAR) {
            Picture.refused("fewest " + far, SearchEdgeTest::laden, x -> x.fewest(far), Picture.NO_SUCH, NONE);
        }
        Picture.refused("fewest 2", SearchEdgeTest::laden, x -> x.fewest(2), Picture.NO_SUCH, NONE);
        RopeTown x = Check.town(ONE_MORE);
        Check.noSuch("spent, another what", () -> x.fewest(2));
    }

    /** "NONE: it can't be". */
    private static void neverServed() {
        RopeTown x = Check.town("load 5 at 1 to 0;");
        Check.same("by weight", NONE, x.fewest(0));
        Check.same("by hand", 6, x.fewest(1));
        RopeTown y = Check.town("cap 4;load 5 at 1 to 0;");
        Check.same("more than CAP", NONE, y.fewest(0));
        Check.same("by hand, too", NONE, y.fewest(1));
        RopeTown z = Check.town("cap 5;load 5 at 1 to 0;");
        Check.same("as much as CAP", 6, z.fewest(1));
        RopeTown w = Check.town("rule loads = 0;load 5 at 0 to 1;");
        Check.same("a rule", NONE, w.fewest(1));
    }

    /** "or is in a BUCKET that is at its AIM". */
    private static void fewestInABucket() {
        for (int bucket = 0; bucket <= 1; bucket++) {
            RopeTown x = Check.town("depth 2;start " + 2 * bucket + ";load 5 at 0 to 1;");
            Check.same("one", 1, x.fewest(0));
            x.load(0, bucket);
            Check.same("one", 1, x.fewest(0));
            x.ride(1, 0);
            Check.same("it is in a bucket at its aim", 0, x.fewest(0));
            x.ride(bucket == 0 ? 2 : 0, 0);
            Check.same("too far", NONE, x.fewest(0));
            x.undo();
            x.unload(0);
            Check.same("unloaded", 0, x.fewest(0));
            x.ride(bucket == 0 ? 2 : 0, 2);
            Check.same("it stays", 0, x.fewest(0));
        }
    }

    /** "Between RIDES one may LOAD and UNLOAD as one will (what is SERVED stays)." */
    private static void servedStays() {
        // the heavy one must come down again for the other: as soon as it is SERVED it can't
        RopeTown x = Check.town("depth 2;load 9 at 0 to 2;load 5 at 2 to 0;");
        Check.same("one draws the other", 1, x.fewest(0));
        x.load(0, 0);
        x.ride(2, 0);
        Check.same("alone it came down: in the bucket", NONE, x.fewest(0));
        x.unload(0);
        Check.same("served", NONE, x.fewest(0));
        Check.same("by hand the other alone: it goes up by 1 and 5 for each step, from where the bucket is", 12,
            x.fewest(1));
        RopeTown y = Check.town("depth 2;load 9 at 0 to 0;load 5 at 2 to 0;");
        Check.same("it could help, but stays", NONE, y.fewest(0));
        Check.same("so its others can't do without it anyhow", 0, y.bars(1, 0));
    }

    /** "(that at which it is, or its BUCKET is, too)": the bits of both ends. */
    private static void reachOfEnds() {
        for (int d = 1; d <= 11; d++) {
            int all = (1 << d + 1) - 1;
            RopeTown x = Check.town("depth " + d + ";load 5 at 0;");
            Check.same("from the top to the bottom", all, x.reach(0));
            x.load(0, 0);
            x.ride(d, 0);
            Check.same("from the bottom no more", 1 << d, x.reach(0));
            x.unload(0);
            Check.same("nor unloaded", 1 << d, x.reach(0));
            RopeTown y = Check.town("depth " + d + ";rule 0;load 5 at " + d + ";");
            Check.same("no ride at all", 1 << d, y.reach(0));
            RopeTown z = Check.town("depth " + d + ";needs 0;load 5 at " + d + ";stone 5 at 0;");
            Check.same("from the bottom to the top", all, z.reach(0));
        }
    }

    /** "of one SERVED its DEPTH alone (POURED: none), whatever else". */
    private static void reachOfServed() {
        for (int depth = 0; depth <= 11; depth++) {
            RopeTown x = Check.town("depth 11;start " + depth + ";needs 0;load 5 at " + depth + " to " + depth + ";");
            Check.same("served", 1 << depth, x.reach(0));
            for (int other = 0; other <= 11; other++) {
                Check.same("bars of one served", other == depth ? NONE : 0, x.bars(0, other));
            }
        }
        RopeTown y = Check.town("water 5 at 0 to 1;");
        y.load(0, 0);
        y.ride(1, 0);
        Check.same("not yet poured", 2, y.reach(0));
        Check.same("not yet poured", NONE, y.bars(0, 1));
        y.unload(0);
        Check.same("poured: none", 0, y.reach(0));
        Check.same("poured: it isn't anyhow", 0, y.bars(0, 0));
        Check.same("poured: it isn't anyhow", 0, y.bars(0, 1));
    }

    private static void reachOfNoThing() {
        for (int far : FAR) {
            Picture.refused("reach " + far, SearchEdgeTest::laden, x -> x.reach(far), Picture.NO_SUCH, NONE);
            Picture.refused("bars of " + far, SearchEdgeTest::laden, x -> x.bars(far, 0), Picture.NO_SUCH, NONE);
        }
        Picture.refused("reach 4", SearchEdgeTest::laden, x -> x.reach(4), Picture.NO_SUCH, NONE);
        Picture.refused("bars of 4", SearchEdgeTest::laden, x -> x.bars(4, 0), Picture.NO_SUCH, NONE);
        Picture.refused("of none", RopeTown::new, x -> x.reach(0), Picture.NO_SUCH, NONE);
        Picture.refused("of none", RopeTown::new, x -> x.bars(0, 0), Picture.NO_SUCH, NONE);
        RopeTown x = Check.town(ONE_MORE);
        Check.noSuch("spent, no such thing", () -> x.reach(3));
    }

    /** "the smallest set of other THINGS": of none of them, of one, up to all six; NONE, if no set does. */
    private static void barsOfSizes() {
        for (int helpers = 0; helpers <= 6; helpers++) {
            // each stone alone draws it up: MOST 1 lets nothing else ride
            String text = "most 1;load 5 at 1;" + "stone 6 at 0;".repeat(helpers);
            RopeTown x = Check.town(text);
            Check.same("all of " + helpers, (1 << helpers) - 1 << 1, x.bars(0, 0));
            Check.same("where it is", NONE, x.bars(0, 1));
            String last = "most 1;" + "stone 6 at 0;".repeat(helpers) + "load 5 at 1;";
            Check.same("all of " + helpers, (1 << helpers) - 1, Check.town(last).bars(helpers, 0));
        }
        RopeTown y = Check.town("load 5 at 0;stone 6 at 0;");
        Check.same("no set does", NONE, y.bars(0, 1));
        RopeTown z = Check.town("load 5 at 1;stone 5 at 0;stone 4 at 0;most 0;");
        Check.same("it isn't anyhow", 0, z.bars(0, 0));
    }

    /** "of as small the least as bits". */
    private static void barsOfAsSmall() {
        RopeTown x = Check.town("stone 4 at 0;load 9 at 1;stone 5 at 0;stone 6 at 0;most 6;");
        // 4 + 6, 5 + 6 or all draw it up, or nothing: without 6 it stays
        Check.same("the one without which none does", 0b1000, x.bars(1, 0));
        RopeTown y = Check.town("stone 5 at 0;load 9 at 1;stone 5 at 0;");
        Check.same("either: the first", 0b001, y.bars(1, 0));
        RopeTown z = Check.town("load 9 at 1;stone 5 at 0;stone 5 at 0;stone 5 at 0;");
        Check.same("any two of three: the first two", 0b0110, z.bars(0, 0));
        RopeTown w = Check.town("load 9 at 1;stone 4 at 0;stone 5 at 0;stone 5 at 0;stone 1 at 0;");
        // 5 + 5 draw it, 4 + 5 + 1 (either 5): without either 5 the other one still does, with 4 and 1
        Check.same("both fives, or a five and 4, or a five and 1", 0b00110, w.bars(0, 0));
    }

    /** "NoSuchElementException: also no such DEPTH." */
    private static void barsOfNoDepth() {
        for (int far : FAR) {
            Picture.refused("bars to " + far, SearchEdgeTest::laden, x -> x.bars(0, far), Picture.NO_SUCH, NONE);
        }
        Picture.refused("bars to 4", SearchEdgeTest::laden, x -> x.bars(0, 4), Picture.NO_SUCH, NONE);
        RopeTown x = Check.town("depth 11;load 5 at 0;load 5 at 3 to 3;");
        Check.same("the bottom", NONE, x.bars(0, 11));
        Check.noSuch("below it", () -> x.bars(0, 12));
        Check.noSuch("below it, of one served", () -> x.bars(1, 12));
        RopeTown y = Check.town(ONE_MORE);
        Check.noSuch("spent, no such depth", () -> y.bars(0, 9));
    }

    private static void barsOfTheOnlyOne() {
        RopeTown x = Check.town("load 5 at 0;");
        Check.same("there are no others: none does", NONE, x.bars(0, 1));
        RopeTown y = Check.town("load 5 at 1;");
        Check.same("it isn't anyhow", 0, y.bars(0, 0));
    }

    /** "A DAY (at most 6)". */
    private static void daysUpToSix() {
        RopeTown x = Check.town("load 5 at 0 to 1;stone 3 at 0;");
        Check.same("no days", 0, x.count(12));
        for (int day = 1; day <= 6; day++) {
            Check.same("day", day, x.day(day % 2));
            Check.same("days", day, x.count(12));
        }
        Check.same("the seventh", NONE, x.day(0));
        Check.same("the seventh", NONE, x.day(1));
        Check.same("days", 6, x.count(12));
        Check.same("status", 2, x.count(16));
        Check.same("the next town", 0, Check.tell(x, "load 5 at 0 to 1;"));
        Check.same("has none", 0, x.count(12));
        Check.same("day", 1, x.day(1));
    }

    /** "NONE (STATUS 2): there are 6, bits of THINGS that there aren't, or without AIMS." */
    private static void daysRefused() {
        int[] wrong = {2, 3, 8, 9, 16, 1 << 7, 1 << 30, -1, Integer.MIN_VALUE, Integer.MIN_VALUE + 1, Integer.MAX_VALUE};
        for (int day : wrong) {
            Picture.refused("day " + day, SearchEdgeTest::laden, x -> x.day(day), NONE, 2);
        }
        for (int day : new int[] {0, 1, 4, 5, 2, -1}) {
            Picture.refused("day " + day + " of six", () -> {
                RopeTown x = laden();
                for (int i = 0; i < 4; i++) {
                    x.day(5);
                }
                return x;
            }, x -> x.day(day), NONE, 2);
        }
        Picture.refused("of none", RopeTown::new, x -> x.day(1), NONE, 2);
        RopeTown x = laden();
        Check.same("one served at first has an aim", 3, x.day(4));
        Check.same("both", 4, x.day(5));
        Check.same("none of them", 5, x.day(0));
    }

    /** The highest bit of a THING, and the next one. */
    private static void dayOfTheSeventh() {
        RopeTown x = Check.town("stone 1 at 0;".repeat(6) + "load 5 at 0 to 1;");
        Check.same("the seventh thing", 1, x.day(64));
        Check.same("an eighth", NONE, x.day(128));
        Check.same("both", NONE, x.day(192));
        Check.same("the sixth is a stone", NONE, x.day(32));
        RopeTown y = Check.town("load 5 at 0 to 1;".repeat(7));
        Check.same("all seven", 1, y.day(127));
        Check.same("eight", NONE, y.day(255));
    }

    /** No DAYS: 0 stones are enough, and none fails. */
    private static void enoughOfNothing() {
        for (String text : new String[] {"", "stone 5 at 0;", "load 5 at 1 to 0;stone 9 at 0;"}) {
            RopeTown x = Check.town(text);
            Check.same("no days", 0, x.enough(0));
            Check.same("no days", NONE, x.enough(1));
            x.day(0);
            Check.same("a day of none", 0, x.enough(0));
            Check.same("a day of none", NONE, x.enough(1));
        }
        RopeTown y = Check.town("load 5 at 1 to 0;");
        y.day(1);
        Check.same("no stones, and no number is enough", NONE, y.enough(0));
        Check.same("so none fails", NONE, y.enough(1));
        RopeTown z = Check.town("load 5 at 1 to 0;stone 4 at 0;stone 1 at 0;");
        z.day(1);
        Check.same("all are not enough", NONE, z.enough(0));
        Check.same("so none fails", NONE, z.enough(1));
    }

    /** "the least number k of stones (the first k by number ..": from none to all six of them. */
    private static void enoughOfAllStones() {
        for (int k = 0; k <= 6; k++) {
            // k stones just draw the load up: MOST 1 lets nothing else ride
            String load = "most 1;" + (k == 0 ? "load 1 at 0 to 1;" : "load " + (9 * k - 1) + " at 1 to 0;");
            RopeTown x = Check.town(load + "stone 9 at 0;".repeat(6));
            x.day(1);
            Check.same("enough of " + k, k, x.enough(0));
            Check.same("one fewer fails", k == 0 ? NONE : 0, x.enough(1));
            if (k > 0) {
                RopeTown y = Check.town(load + "stone 9 at 0;".repeat(k - 1));
                y.day(1);
                Check.same("one fewer isn't enough", NONE, y.enough(0));
                Check.same("and none is", NONE, y.enough(1));
            }
        }
        RopeTown z = Check.town("load 5 at 1 to 0;load 3 at 0 to 1;stone 6 at 0;");
        for (int day : new int[] {2, 2, 2, 2, 2, 1}) {
            z.day(day);
        }
        Check.same("for the last day one", 1, z.enough(0));
        Check.same("the last one fails", 5, z.enough(1));
    }

    /** "-2: SPENT (of any DAY that is asked; k from 0 on, then DAYS)". */
    private static void enoughSpent() {
        RopeTown x = Check.town(JUST);
        x.day(7);
        Check.same("as many as may be", 0, x.enough(0));
        Check.same("as many as may be", NONE, x.enough(1));
        RopeTown y = Check.town(ONE_MORE);
        Check.same("no day is asked", 0, y.enough(0));
        y.day(6);
        Check.same("a day of two", 0, y.enough(0));
        y.day(7);
        Check.same("one more", SPENT, y.enough(0));
        Check.same("one more", SPENT, y.enough(1));
        RopeTown z = Check.town(ONE_MORE + "load 5 at 8 to 0;");
        z.day(8);
        Check.same("on the first day no number is enough", NONE, z.enough(0));
        z.day(7);
        Check.same("so the second one isn't asked", NONE, z.enough(0));
        Check.same("so the second one isn't asked", NONE, z.enough(1));
        RopeTown w = Check.town(JUST + "load 5 at 7 to 0;stone 6 at 0;");
        w.day(8);
        w.day(7);
        Check.same("with the stone there are too many", SPENT, w.enough(0));
        RopeTown v = Check.town(JUST + "stone 6 at 0;");
        v.day(7);
        Check.same("without it it is enough: with it none is asked", 0, v.enough(0));
    }

    private static void enoughOfAnother() {
        for (int far : FAR) {
            Picture.refused("enough " + far, SearchEdgeTest::laden, x -> x.enough(far), Picture.NO_SUCH, NONE);
        }
        Picture.refused("enough 2", SearchEdgeTest::laden, x -> x.enough(2), Picture.NO_SUCH, NONE);
        RopeTown x = Check.town("");
        Check.noSuch("no days, another what", () -> x.enough(2));
    }

    /** "STATUS: how many calls were refused: 0 TEXTS with a FAULT, 1 MOVES that can't be, 2 DAYS." */
    private static void statusEach() {
        RopeTown x = Check.town("load 5 at 0 to 1;");
        int[] due = new int[3];
        for (int i = 0; i < 40; i++) {
            int which = i % 5 % 3;
            if (which == 0) {
                Check.tell(x, "cap 0;");
            } else if (which == 1) {
                x.ride(i, 3);
            } else {
                x.day(2);
            }
            due[which]++;
            for (int k = 0; k < 3; k++) {
                Check.same("status " + k, due[k], x.count(14 + k));
            }
        }
        // what is not done, but no MOVE, TEXT or DAY, is not counted
        x.undo();
        x.winding(9);
        x.may(9);
        x.restore();
        Check.illegal("town", () -> x.town(1));
        Check.noSuch("thing", () -> x.thing(9, 0));
        Check.noSuch("fewest", () -> x.fewest(9));
        for (int k = 0; k < 3; k++) {
            Check.same("status " + k, due[k], x.count(14 + k));
        }
        // nor is what is done
        x.load(0, 0);
        x.ride(1, 0);
        x.unload(0);
        x.day(1);
        Check.tell(x, "cap 5;");
        for (int k = 0; k < 3; k++) {
            Check.same("status goes on " + k, due[k], x.count(14 + k));
        }
    }

    /** "False: there is none." */
    private static void noImage() {
        Picture.refused("restore of a new object", RopeTown::new, x -> x.restore() ? 1 : 0, 0, NONE);
        Picture.refused("restore behind a town", () -> {
            RopeTown x = laden();
            Check.tell(x, SHAFT);
            x.load(0, 0);
            x.ride(9, 9);
            return x;
        }, x -> x.restore() ? 1 : 0, 0, NONE);
        RopeTown x = new RopeTown();
        x.image();
        Check.same("of a new object", 1, x.restore() ? 1 : 0);
        Check.same("again", 1, x.restore() ? 1 : 0);
    }

    /** All 60 MOVES and all 6 DAYS are kept, and all STATUS; none of them, if there was none. */
    private static void imageOfAFullRow() {
        RopeTown x = Check.town("depth 2;needs 0;load 5 at 0 to 2;stone 3 at 0;");
        x.image();
        Picture first = Picture.of(x);
        for (int i = 0; i < 30; i++) {
            x.load(i % 2, 0);
            if (i % 3 == 0) {
                x.ride(i % 2 + 1, 2);
                x.ride(0, 2);
            }
            x.unload(i % 2);
        }
        for (int i = 0; i < 8; i++) {
            x.day(i % 2);
        }
        Check.same("row", 60, x.count(9));
        Check.same("restore", 1, x.restore() ? 1 : 0);
        Check.sameText("as at first", "", first.changesTo(Picture.of(x)));
        for (int i = 0; i < 60; i++) {
            x.ride((x.count(8) + 1 + i % 2) % 3, 2);
            x.load(i % 2, 0);
        }
        for (int i = 0; i < 8; i++) {
            x.day(i % 2);
        }
        Check.tell(x, "x");
        Check.same("row", 60, x.count(9));
        Check.same("days", 6, x.count(12));
        x.image();
        Picture full = Picture.of(x);
        while (x.undo() > 0) {
            x.day(1);
        }
        x.load(0, 0);
        Check.same("restore", 1, x.restore() ? 1 : 0);
        Check.sameText("full again", "", full.changesTo(Picture.of(x)));
        Check.same("full", 8, x.ride(x.count(8) == 0 ? 1 : 0, 2));
        Check.same("full", NONE, x.day(1));
    }

    /** "AN IMAGE is kept, in place of another one." */
    private static void imageInPlaceOfAnother() {
        RopeTown x = Check.town("stone 5 at 0;");
        x.image();
        x.load(0, 0);
        x.image();
        Picture later = Picture.of(x);
        x.undo();
        x.ride(1, 2);
        x.restore();
        Check.sameText("the later one", "", later.changesTo(Picture.of(x)));
        x.undo();
        x.restore();
        Check.sameText("it is kept on", "", later.changesTo(Picture.of(x)));
        x.undo();
        x.image();
        x.load(0, 0);
        x.restore();
        Check.same("an earlier state may be kept later", 0, x.count(9));
    }

    /** "THE ROW, DAYS, the image are gone." */
    private static void goodTownTakesAll() {
        RopeTown x = laden();
        x.ride(9, 9);
        x.day(-1);
        Check.tell(x, "x");
        Check.same("a good one", 0, Check.tell(x, SHAFT));
        Picture due = Picture.of(Check.town(SHAFT));
        Check.sameText("all but STATUS", "count 14 0>1, count 15 0>1, count 16 0>1", due.changesTo(Picture.of(x)));
        Check.same("no undo", NONE, x.undo());
        Check.same("no image", 0, x.restore() ? 1 : 0);
    }

    private static RopeTown laden() {
        RopeTown x = Check.town(SHAFT);
        x.load(0, 0);
        x.day(1);
        x.image();
        x.load(1, 1);
        x.ride(2, 2);
        x.day(0);
        return x;
    }
}
