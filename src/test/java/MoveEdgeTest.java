import java.util.function.Supplier;

/** The edges of THINGS, BUCKETS, MOVES, THE ROW and BACK, by the sentences that tell them (promises 6 to 15). */
public final class MoveEdgeTest {
    private static final int NONE = RopeTown.NONE;
    private static final int[] FAR = {-1, -2, Integer.MIN_VALUE, Integer.MIN_VALUE + 1, Integer.MAX_VALUE, 1 << 16};
    private static final String SHAFT = "depth 3;start 1;cap 20;rope 1;needs 2;most 9;brake 2;load 5 at 1 to 3;"
        + "stone 8 at 2;water 4 at 1 to 1;person 30 at 1;rule loads < 2;";

    public static void main(String[] args) {
        noSuchThing();
        noSuchBucket();
        served();
        poured();
        bucketsAtTheEnds();
        sides();
        cap();
        freeAndBraked();
        withoutNeeds();
        without();
        woundCosts();
        dearest();
        eachStep();
        sixAheadOfSeven();
        troublesOfLoad();
        troublesOfUnload();
        troublesOfRide();
        leastTrouble();
        fullRow();
        fullRowTroubles();
        windingOfNoDepth();
        mayOfNoDepth();
        undoToTheFirst();
        movedWithin();
        backEdges();
        backByRules();
        Check.end("MoveEdgeTest");
    }

    /** "NoSuchElementException: no such THING (as everywhere), what." */
    private static void noSuchThing() {
        for (int n = 0; n <= 7; n++) {
            String text = "stone 1 at 0;".repeat(n);
            RopeTown x = Check.town(text);
            if (n > 0) {
                Check.same("the last", 2, x.thing(n - 1, 0));
                Check.same("the first", 2, x.thing(0, 0));
                Check.same("what 5", 0, x.thing(0, 5));
                Check.noSuch("what 6", () -> x.thing(0, 6));
            }
            int first = n;
            Check.noSuch("the first that isn't", () -> x.thing(first, 0));
        }
        for (int far : FAR) {
            Picture.refused("thing " + far, MoveEdgeTest::laden, x -> x.thing(far, 0), Picture.NO_SUCH, NONE);
            Picture.refused("what " + far, MoveEdgeTest::laden, x -> x.thing(0, far), Picture.NO_SUCH, NONE);
        }
        Picture.refused("thing 4", MoveEdgeTest::laden, x -> x.thing(4, 0), Picture.NO_SUCH, NONE);
        Picture.refused("what 6", MoveEdgeTest::laden, x -> x.thing(3, 6), Picture.NO_SUCH, NONE);
        Picture.refused("both", MoveEdgeTest::laden, x -> x.thing(4, 6), Picture.NO_SUCH, NONE);
    }

    /** "NoSuchElementException: no such BUCKET, what." */
    private static void noSuchBucket() {
        for (int far : FAR) {
            Picture.refused("bucket " + far, MoveEdgeTest::laden, x -> x.bucket(far, 0), Picture.NO_SUCH, NONE);
            Picture.refused("what " + far, MoveEdgeTest::laden, x -> x.bucket(0, far), Picture.NO_SUCH, NONE);
            Picture.refused("count " + far, MoveEdgeTest::laden, x -> x.count(far), Picture.NO_SUCH, NONE);
        }
        Picture.refused("bucket 2", MoveEdgeTest::laden, x -> x.bucket(2, 0), Picture.NO_SUCH, NONE);
        Picture.refused("what 5", MoveEdgeTest::laden, x -> x.bucket(1, 5), Picture.NO_SUCH, NONE);
        Picture.refused("count 17", MoveEdgeTest::laden, x -> x.count(17), Picture.NO_SUCH, NONE);
        RopeTown x = laden();
        Check.same("bucket 1, what 4", NONE, x.bucket(1, 4));
        Check.same("count 16", 0, x.count(16));
    }

    /** "SERVED is one at its AIM (at first, too), or POURED: it is loaded no more." */
    private static void served() {
        for (String kind : new String[] {"load", "person", "water"}) {
            RopeTown x = Check.town(kind + " 5 at 0 to 0;" + kind + " 5 at 0 to 1;" + kind + " 5 at 0;");
            Check.same(kind + " at its aim at first", 1, x.thing(0, 5));
            Check.same("its depth is told", 0, x.thing(0, 3));
            Check.same("elsewhere", 0, x.thing(1, 5));
            Check.same("without an aim", 0, x.thing(2, 5));
            Check.same("it is loaded no more", 2, x.load(0, 0));
            x.load(1, 0);
            x.load(2, 0);
            x.ride(1, 0);
            Check.same("in a bucket at its aim it isn't", 0, x.thing(1, 5));
            x.unload(1);
            x.unload(2);
            Check.same("unloaded it is", 1, x.thing(1, 5));
            Check.same("it is loaded no more", 2, x.load(1, 0));
            Check.same("without an aim it never is", 0, x.thing(2, 5));
            Check.same("and is loaded again", 0, x.load(2, 0));
            x.undo();
            x.undo();
            x.undo();
            Check.same("undone it isn't", 0, x.thing(1, 5));
        }
        RopeTown y = Check.town("stone 5 at 0;");
        Check.same("a stone", NONE, y.thing(0, 2));
        Check.same("never is", 0, y.thing(0, 5));
    }

    /** "Water that is unloaded at its AIM is POURED." */
    private static void poured() {
        for (int depth = 1; depth <= 11; depth++) {
            RopeTown x = Check.town("depth " + depth + ";water 5 at 0 to " + depth + ";load 5 at 0 to " + depth
                + ";water 5 at 0;");
            for (int thing = 0; thing < 3; thing++) {
                x.load(thing, 0);
            }
            x.ride(depth, 0);
            Check.same("in the bucket it is there", depth, x.thing(0, 3));
            for (int thing = 0; thing < 3; thing++) {
                Check.same("unloaded", 0, x.unload(thing));
                Check.same("depth of " + thing, thing == 0 ? NONE : depth, x.thing(thing, 3));
                Check.same("bucket of " + thing, NONE, x.thing(thing, 4));
            }
            Check.same("served", 1, x.thing(0, 5));
            Check.same("load", 2, x.load(0, 0));
            Check.same("load", 2, x.load(0, 1));
            Check.same("unload", 2, x.unload(0));
            Check.same("kind", 3, x.thing(0, 0));
            Check.same("weight", 5, x.thing(0, 1));
            Check.same("aim", depth, x.thing(0, 2));
        }
        RopeTown y = Check.town("water 5 at 0 to 0;");
        Check.same("at its aim at first it isn't poured", 0, y.thing(0, 3));
        Check.same("but served", 1, y.thing(0, 5));
    }

    /** "if 0 is at DEPTH a, 1 is at D less a", from end to end. */
    private static void bucketsAtTheEnds() {
        for (int d = 1; d <= 11; d++) {
            RopeTown x = Check.town("depth " + d + ";");
            for (int a = 0; a <= d; a++) {
                if (a > 0) {
                    Check.same("ride", 0, x.ride(a, 2));
                }
                Check.same("0", a, x.bucket(0, 2));
                Check.same("1", d - a, x.bucket(1, 2));
                Check.same("where 0 is", a, x.count(8));
            }
            Check.same("below the bottom", 1, x.ride(d + 1, 2));
            Check.same("all the way up", 0, x.ride(0, 2));
            Check.same("above the top", 1, x.ride(-1, 2));
        }
    }

    /** "Each step of rope that hangs on a side weighs ROPE there". */
    private static void sides() {
        RopeTown x = Check.town("depth 11;rope 9;load 99 at 0;load 99 at 11;");
        Check.same("0 at the top", 0, x.bucket(0, 1));
        Check.same("1 at the bottom", 99, x.bucket(1, 1));
        x.load(0, 0);
        x.load(1, 1);
        Check.same("0", 99, x.bucket(0, 1));
        Check.same("1", 198, x.bucket(1, 1));
        x.ride(11, 2);
        Check.same("0", 198, x.bucket(0, 1));
        Check.same("1", 99, x.bucket(1, 1));
        Check.same("without rope", 0, Check.town("depth 11;").bucket(1, 1));
    }

    /** "A BUCKET holds things of CAP together at most", in either one; it may be loaded with more, but rides no more. */
    private static void cap() {
        for (int cap : new int[] {1, 2, 50, 98, 99}) {
            for (int bucket = 0; bucket <= 1; bucket++) {
                RopeTown x = Check.town("cap " + cap + ";most 999;stone " + cap + " at " + bucket + ";stone 1 at " + bucket + ";");
                x.load(0, bucket);
                Check.same("as much as CAP", bucket == 0 ? 7 : 4, x.may(1));
                Check.same("one more is loaded", 0, x.load(1, bucket));
                for (int how = 0; how <= 2; how++) {
                    Check.same("but doesn't ride", 4, x.ride(1, how));
                }
                Check.same("by no how", 0, x.may(1));
                x.unload(1);
                Check.same("it rides again", 0, x.ride(1, 2));
            }
        }
        String heavy = "stone 99 at 0;".repeat(7);
        RopeTown y = Check.town("cap 693;" + heavy);
        RopeTown z = Check.town("cap 692;" + heavy);
        RopeTown w = Check.town("stone 99 at 0;stone 1 at 0;");
        for (int thing = 0; thing < 7; thing++) {
            y.load(thing, 0);
            z.load(thing, 0);
        }
        Check.same("all seven", 4, y.may(1));
        Check.same("one too much", 0, z.may(1));
        w.load(0, 0);
        Check.same("99 without", 4, w.may(1));
        w.load(1, 0);
        Check.same("100 without", 4, w.ride(1, 2));
    }

    /** "FREE: each EXCESS is NEEDS or more and at most MOST; BRAKED: at most MOST and BRAKE together". */
    private static void freeAndBraked() {
        int[][] bounds = {{1, 20, 0}, {5, 5, 0}, {5, 5, 1}, {3, 10, 7}, {90, 95, 3}, {1, 1, 1}, {2, 0, 9}, {1, 50, 49}};
        for (int[] b : bounds) {
            for (int weight = 1; weight <= 99; weight++) {
                int free = weight < b[0] ? 6 : weight > b[1] ? 7 : 0;
                int braked = weight < b[0] ? 6 : weight > b[1] + b[2] ? 7 : 0;
                String text = "needs " + b[0] + ";most " + b[1] + ";brake " + b[2] + ";stone " + weight + " at ";
                down(text + "0;", 0, 1, free, braked);
                down("start 1;" + text + "0;", 1, 0, free, braked);
            }
        }
    }

    /** BUCKET 0, or the other one, goes down by its weight. */
    private static void down(String text, int bucket, int depth, int free, int braked) {
        RopeTown x = Check.town(text);
        x.load(0, bucket);
        Check.same("may of " + text, (free == 0 ? 1 : 0) + (braked == 0 ? 2 : 0) + 4, x.may(depth));
        Check.same("free: " + text, free, x.ride(depth, 0));
        if (free == 0) {
            x.undo();
        }
        Check.same("braked: " + text, braked, x.ride(depth, 1));
        if (braked == 0) {
            x.undo();
        }
        Check.same("wound: " + text, 0, x.ride(depth, 2));
    }

    /** "NEEDS 0": what hangs even goes either way; one less doesn't. */
    private static void withoutNeeds() {
        RopeTown x = Check.town("needs 0;most 0;stone 5 at 0;stone 5 at 1;stone 1 at 1;");
        Check.same("empty ones go", 7, x.may(1));
        x.load(0, 0);
        Check.same("5 is more than MOST 0", 4, x.may(1));
        Check.same("too much", 7, x.ride(1, 0));
        x.load(1, 1);
        Check.same("even ones go", 7, x.may(1));
        x.load(2, 1);
        Check.same("less than 0", 6, x.ride(1, 0));
        Check.same("by hand it costs 1", 1, x.winding(1));
    }

    /** "NEEDS .. (1 without), MOST .. (20 without), BRAKE .. (0 without)". */
    private static void without() {
        int[] weights = {1, 20, 21};
        int[] may = {7, 7, 4};
        Check.same("0 is below NEEDS", 6, new RopeTown().ride(1, 0));
        for (int i = 0; i < weights.length; i++) {
            RopeTown x = Check.town("stone " + weights[i] + " at 0;");
            x.load(0, 0);
            Check.same("weight " + weights[i], may[i], x.may(1));
        }
    }

    /** "for each step it costs what it is less than NEEDS, or more than MOST and BRAKE". */
    private static void woundCosts() {
        for (int weight = 1; weight <= 30; weight++) {
            RopeTown x = Check.town("depth 11;needs 7;most 13;brake 4;stone " + weight + " at 0;");
            x.load(0, 0);
            int step = weight < 7 ? 7 - weight : weight > 17 ? weight - 17 : 0;
            for (int depth = 1; depth <= 11; depth++) {
                Check.same("winding by " + weight + " to " + depth, step * depth, x.winding(depth));
            }
            Check.same("wound", 0, x.ride(11, 2));
            Check.same("cost", step * 11, x.count(11));
            Check.same("up against its weight", 11 * (7 + weight), x.winding(0));
            Check.same("wound", 0, x.ride(0, 2));
            Check.same("together", step * 11 + 11 * (7 + weight), x.count(11));
            x.undo();
            Check.same("undone", step * 11, x.count(11));
            x.undo();
            Check.same("undone", 0, x.count(11));
        }
        RopeTown y = Check.town("stone 5 at 0;");
        y.load(0, 0);
        y.ride(1, 0);
        Check.same("free it costs nothing", 0, y.count(11));
        y.undo();
        y.ride(1, 2);
        Check.same("nor wound, where it needn't be", 0, y.count(11));
    }

    /** The dearest RIDES that there are, and a ROW of them. */
    private static void dearest() {
        RopeTown x = Check.town("depth 11;cap 999;rope 9;needs 99;most 0;" + "stone 99 at 0;".repeat(7));
        for (int thing = 0; thing < 7; thing++) {
            x.load(thing, 0);
        }
        // down: 693 - 99, then 18 more at each of eleven steps
        Check.same("down", 11 * (693 - 99) + 18 * 55, x.winding(11));
        x.ride(11, 2);
        // up: NEEDS and 693 and 99, then 18 less at each step
        int up = 11 * (99 + 693 + 99) - 18 * 55;
        Check.same("up", up, x.winding(0));
        int sum = x.count(11);
        for (int i = 8; i < 60; i++) {
            int way = x.count(8) == 0 ? 11 * (693 - 99) + 18 * 55 : up;
            Check.same("ride", 0, x.ride(x.count(8) == 0 ? 11 : 0, 2));
            sum += way;
            Check.same("cost", sum, x.count(11));
        }
        Check.same("row", 60, x.count(9));
        Check.same("rides", 53, x.count(10));
    }

    /** "Step by step of a RIDE": the first step and the last one count as all others. */
    private static void eachStep() {
        // bucket 0 goes down by 5 - 4, 7 - 4 .. : 1, 3, 5, 7 of rope 1 and D 4
        for (int most = 0; most <= 8; most++) {
            RopeTown x = Check.town("depth 4;rope 1;most " + most + ";stone 5 at 0;");
            x.load(0, 0);
            for (int depth = 1; depth <= 4; depth++) {
                int last = 2 * depth - 1;
                Check.same("most " + most + " to " + depth, last <= most ? 7 : 4, x.may(depth));
            }
        }
        for (int needs = 0; needs <= 3; needs++) {
            RopeTown x = Check.town("depth 4;rope 1;needs " + needs + ";stone 5 at 0;");
            x.load(0, 0);
            Check.same("needs " + needs, needs <= 1 ? 7 : 4, x.may(4));
            Check.same("trouble", needs <= 1 ? 0 : 6, x.ride(4, 0));
        }
        // and bucket 1 as bucket 0 goes up from the bottom
        RopeTown y = Check.town("depth 4;start 4;rope 1;stone 5 at 0;");
        y.load(0, 1);
        Check.same("1, 3, 5, 7 the other way", 7, y.may(0));
        Check.same("as they hang ahead of the step", 0, y.ride(3, 0));
        Check.same("from there 3, 5, 7", 0, y.winding(0));
    }

    /** "(6 ahead of 7, whichever comes first)". */
    private static void sixAheadOfSeven() {
        // by rope 2 and D 3: below NEEDS first, then too much
        RopeTown x = Check.town("depth 3;rope 2;most 3;stone 6 at 0;");
        x.load(0, 0);
        Check.same("0: one step", 6, x.ride(1, 0));
        Check.same("0, 4, 8", 6, x.ride(3, 0));
        Check.same("0, 4, 8", 6, x.ride(3, 1));
        // EXCESSES grow along every RIDE, by twice ROPE: below NEEDS comes first, or both at once
        RopeTown y = Check.town("depth 3;rope 2;needs 5;most 3;stone 10 at 0;");
        y.load(0, 0);
        Check.same("4 is both", 6, y.ride(1, 0));
        Check.same("4, 8", 6, y.ride(2, 1));
        RopeTown z = Check.town("depth 3;rope 2;needs 4;most 3;stone 10 at 0;");
        z.load(0, 0);
        Check.same("4, 8 are too much alone", 7, z.ride(2, 1));
    }

    private static RopeTown laden() {
        RopeTown x = Check.town(SHAFT);
        x.load(0, 0);
        x.day(1);
        x.image();
        x.load(1, 1);
        x.ride(2, 2);
        x.day(0);
        return x;
    }

    private static void trouble(String what, Supplier<RopeTown> make, int move, int a, int b, int due) {
        Picture.refused(what + " " + a + " " + b, make,
            x -> move == 0 ? x.load(a, b) : move == 1 ? x.unload(a) : x.ride(a, b), due, 1);
    }

    /** "LOAD: 0, or the TROUBLE (STATUS 1; nothing changes)." */
    private static void troublesOfLoad() {
        for (int far : FAR) {
            trouble("load", MoveEdgeTest::laden, 0, far, 0, 1);
            trouble("load", MoveEdgeTest::laden, 0, 1, far, 1);
        }
        trouble("no such thing", MoveEdgeTest::laden, 0, 4, 0, 1);
        trouble("no such bucket", MoveEdgeTest::laden, 0, 3, 2, 1);
        trouble("in this bucket", MoveEdgeTest::laden, 0, 0, 0, 2);
        trouble("in the other one", MoveEdgeTest::laden, 0, 0, 1, 2);
        trouble("served", MoveEdgeTest::laden, 0, 2, 1, 2);
        trouble("not there", MoveEdgeTest::laden, 0, 3, 0, 3);
        RopeTown x = laden();
        Check.same("there", 0, x.load(3, 1));
        trouble("poured", MoveEdgeTest::rained, 0, 0, 0, 2);
        trouble("of none", RopeTown::new, 0, 0, 0, 1);
    }

    private static RopeTown rained() {
        RopeTown x = Check.town("water 5 at 0 to 1;");
        x.load(0, 0);
        x.ride(1, 0);
        x.unload(0);
        return x;
    }

    /** "UNLOAD: likewise." */
    private static void troublesOfUnload() {
        for (int far : FAR) {
            trouble("unload", MoveEdgeTest::laden, 1, far, 0, 1);
        }
        trouble("no such thing", MoveEdgeTest::laden, 1, 4, 0, 1);
        trouble("in none", MoveEdgeTest::laden, 1, 3, 0, 2);
        trouble("served, in none", MoveEdgeTest::laden, 1, 2, 0, 2);
        trouble("poured", MoveEdgeTest::rained, 1, 0, 0, 2);
        trouble("of none", RopeTown::new, 1, 0, 0, 1);
    }

    /** "RIDE: likewise." */
    private static void troublesOfRide() {
        for (int far : FAR) {
            trouble("ride", MoveEdgeTest::laden, 2, far, 0, 1);
            trouble("ride", MoveEdgeTest::laden, 2, 0, far, 1);
        }
        trouble("no such depth", MoveEdgeTest::laden, 2, 4, 2, 1);
        trouble("no such how", MoveEdgeTest::laden, 2, 0, 3, 1);
        trouble("there already", MoveEdgeTest::laden, 2, 2, 2, 3);
        trouble("cap", () -> {
            RopeTown x = laden();
            x.load(3, 1);
            return x;
        }, 2, 0, 2, 4);
        trouble("a rule", () -> {
            RopeTown x = Check.town("load 5 at 0;load 6 at 0 to 1;rule loads < 2;");
            x.load(0, 0);
            x.image();
            x.load(1, 0);
            return x;
        }, 2, 1, 2, 5);
        trouble("below needs", MoveEdgeTest::laden, 2, 3, 0, 6);
        trouble("below needs", MoveEdgeTest::laden, 2, 3, 1, 6);
        trouble("too much", () -> {
            RopeTown x = Check.town("most 10;brake 3;stone 14 at 0;");
            x.load(0, 0);
            return x;
        }, 2, 1, 1, 7);
        trouble("too much for free", () -> {
            RopeTown x = Check.town("most 10;brake 4;stone 14 at 0;");
            x.load(0, 0);
            return x;
        }, 2, 1, 0, 7);
    }

    /** "TROUBLES of a MOVE that can't be, the least": wherever two are at once. */
    private static void leastTrouble() {
        RopeTown x = Check.town("depth 2;cap 10;most 5;load 9 at 0 to 0;load 8 at 1;rule weight < 11;stone 11 at 0;"
            + "stone 9 at 0;rule stones < 2;");
        Check.same("1 ahead of 2: served, no such bucket", 1, x.load(0, 2));
        Check.same("1 ahead of 3: elsewhere, no such bucket", 1, x.load(1, 2));
        Check.same("2 ahead of 3: served, bucket 1 elsewhere", 2, x.load(0, 1));
        Check.same("1 ahead of 3: there, no such how", 1, x.ride(0, 3));
        x.load(2, 0);
        Check.same("3 ahead of 4, 5", 3, x.ride(0, 0));
        Check.same("1 ahead of 4, 5", 1, x.ride(3, 0));
        Check.same("4 ahead of 5, 7", 4, x.ride(1, 0));
        Check.same("4 ahead of 5, wound", 4, x.ride(1, 2));
        x.load(3, 0);
        Check.same("4 ahead of two rules", 4, x.ride(2, 1));
        RopeTown y = Check.town("rule 0;stone 50 at 0;");
        Check.same("5 ahead of 6", 5, y.ride(1, 0));
        y.load(0, 0);
        Check.same("5 ahead of 7", 5, y.ride(1, 0));
        Check.same("3 ahead of 5", 3, y.ride(0, 0));
        Check.same("status", 12, x.count(15) + y.count(15));
    }

    /** A ROW of 59 MOVES: LOAD and UNLOAD by turns; nothing is in a BUCKET, or the stone is in 0. */
    private static RopeTown nearlyFull(boolean isLaden) {
        RopeTown x = Check.town("depth 2;cap 9;stone 5 at 0;load 6 at 0 to 0;load 5 at 1;");
        if (!isLaden) {
            x.ride(1, 2);
            x.ride(0, 2);
            x.ride(1, 2);
            x.ride(0, 2);
            x.ride(2, 2);
            x.ride(0, 2);
            x.ride(2, 2);
            x.ride(1, 2);
            x.ride(0, 2);
        }
        while (x.count(9) < 59) {
            x.load(0, 0);
            if (x.count(9) < 59) {
                x.unload(0);
            }
        }
        Check.same("row", 59, x.count(9));
        Check.same("laden", isLaden ? 1 : 0, x.bucket(0, 3));
        return x;
    }

    /** "THE ROW are all MOVES that were done (at most 60)": the 60th of each sort is taken, the 61st isn't. */
    private static void fullRow() {
        for (int move = 0; move <= 2; move++) {
            RopeTown x = nearlyFull(move != 0);
            int answer = move == 0 ? x.load(0, 0) : move == 1 ? x.unload(0) : x.ride(2, 0);
            Check.same("the 60th", 0, answer);
            Check.same("row", 60, x.count(9));
            Check.same("it is told", move, x.moved(59, 0));
            Check.noSuch("no 61st", () -> x.moved(60, 0));
            Check.same("the 61st", 8, move == 0 ? x.unload(0) : move == 1 ? x.load(0, 0) : x.unload(0));
            Check.same("the 61st ride", 8, x.ride(move == 2 ? 1 : 2, 2));
            Check.same("row", 60, x.count(9));
            Check.same("undo", 59, x.undo());
            Check.same("there is room again", 0, x.ride(1, 2));
            Check.same("for one", 8, x.ride(2, 2));
        }
    }

    /** "8 THE ROW has 60 MOVES", behind all other TROUBLES. */
    private static void fullRowTroubles() {
        Supplier<RopeTown> laden = () -> {
            RopeTown x = nearlyFull(false);
            x.load(0, 0);
            return x;
        };
        Supplier<RopeTown> bare = () -> {
            RopeTown x = nearlyFull(true);
            x.unload(0);
            return x;
        };
        trouble("full: load", bare, 0, 0, 0, 8);
        trouble("full: unload", laden, 1, 0, 0, 8);
        trouble("full: ride free", laden, 2, 2, 0, 8);
        trouble("full: ride braked", laden, 2, 2, 1, 8);
        trouble("full: ride wound", bare, 2, 2, 2, 8);
        trouble("full: no such thing", bare, 0, 3, 0, 1);
        trouble("full: served", bare, 0, 1, 0, 2);
        trouble("full: elsewhere", bare, 0, 2, 0, 3);
        trouble("full: in none", bare, 1, 0, 0, 2);
        trouble("full: no such thing", laden, 1, 3, 0, 1);
        trouble("full: there already", laden, 2, 0, 0, 3);
        trouble("full: no such how", laden, 2, 2, 3, 1);
        trouble("full: below needs", bare, 2, 2, 0, 6);
        RopeTown x = laden.get();
        Check.same("none may be done", 0, x.may(2));
        Check.same("winding is told", 0, x.winding(2));
        x.undo();
        Check.same("wound", 4, x.may(2));
        RopeTown y = Check.town("cap 9;most 1;stone 5 at 0;stone 5 at 0;rule stones < 2;");
        for (int i = 0; i < 29; i++) {
            y.load(1, 0);
            y.unload(1);
        }
        y.load(0, 0);
        y.load(1, 0);
        Check.same("row", 60, y.count(9));
        Check.same("full: cap", 4, y.ride(1, 0));
        RopeTown z = Check.town("most 1;stone 5 at 0;rule stones < 1 or depth = 0;stone 1 at 1;");
        for (int i = 0; i < 30; i++) {
            z.load(0, 0);
            z.unload(0);
        }
        z.undo();
        z.undo();
        z.load(0, 0);
        z.load(1, 1);
        Check.same("row", 60, z.count(9));
        Check.same("full: a rule", 5, z.ride(1, 0));
        RopeTown w = Check.town("depth 2;most 1;stone 5 at 0;");
        w.ride(1, 2);
        w.ride(2, 2);
        w.ride(0, 2);
        for (int i = 0; i < 28; i++) {
            w.load(0, 0);
            w.unload(0);
        }
        w.load(0, 0);
        Check.same("row", 60, w.count(9));
        Check.same("full: too much", 7, w.ride(1, 0));
        Check.same("full: none else", 8, w.ride(1, 2));
    }

    /** "NONE: it is no DEPTH, or there already." */
    private static void windingOfNoDepth() {
        for (int far : FAR) {
            Picture.refused("winding " + far, MoveEdgeTest::laden, x -> x.winding(far), NONE, NONE);
        }
        Picture.refused("winding there", MoveEdgeTest::laden, x -> x.winding(2), NONE, NONE);
        Picture.refused("winding below", MoveEdgeTest::laden, x -> x.winding(4), NONE, NONE);
        RopeTown x = Check.town("depth 11;start 5;needs 0;");
        Check.same("the top", 0, x.winding(0));
        Check.same("the bottom", 0, x.winding(11));
        Check.same("below it", NONE, x.winding(12));
    }

    /** "(0: none, no such)". */
    private static void mayOfNoDepth() {
        for (int far : FAR) {
            Picture.refused("may " + far, MoveEdgeTest::laden, x -> x.may(far), 0, NONE);
        }
        Picture.refused("may there", MoveEdgeTest::laden, x -> x.may(2), 0, NONE);
        Picture.refused("may below", MoveEdgeTest::laden, x -> x.may(4), 0, NONE);
        RopeTown x = Check.town("depth 11;start 5;needs 0;");
        Check.same("the top", 7, x.may(0));
        Check.same("the bottom", 7, x.may(11));
        Check.same("below it", 0, x.may(12));
    }

    /** "The last MOVE is UNDONE: how many are left. NONE: there is none." */
    private static void undoToTheFirst() {
        Picture.refused("undo of a new object", RopeTown::new, RopeTown::undo, NONE, NONE);
        Picture.refused("undo of no move", () -> Check.town(SHAFT), RopeTown::undo, NONE, NONE);
        RopeTown x = nearlyFull(true);
        x.ride(2, 0);
        for (int left = 59; left >= 0; left--) {
            Check.same("left", left, x.undo());
            Check.same("row", left, x.count(9));
        }
        Picture first = Picture.of(Check.town("depth 2;cap 9;stone 5 at 0;load 6 at 0 to 0;load 5 at 1;"));
        Check.sameText("all is as at first", "", first.changesTo(Picture.of(x)));
        Check.same("none", NONE, x.undo());
        Check.same("none", NONE, x.undo());
        Check.same("that is no refused move", 0, x.count(15));
    }

    /** "NoSuchElementException: there is none, another what." */
    private static void movedWithin() {
        for (int far : FAR) {
            Picture.refused("moved " + far, MoveEdgeTest::laden, x -> x.moved(far, 0), Picture.NO_SUCH, NONE);
            Picture.refused("what " + far, MoveEdgeTest::laden, x -> x.moved(0, far), Picture.NO_SUCH, NONE);
        }
        Picture.refused("moved 3", MoveEdgeTest::laden, x -> x.moved(3, 0), Picture.NO_SUCH, NONE);
        Picture.refused("what 3", MoveEdgeTest::laden, x -> x.moved(2, 3), Picture.NO_SUCH, NONE);
        Picture.refused("of no row", RopeTown::new, x -> x.moved(0, 0), Picture.NO_SUCH, NONE);
        RopeTown x = laden();
        Check.same("the first", 0, x.moved(0, 0));
        Check.same("the last", 2, x.moved(2, 0));
        Check.same("its how", 2, x.moved(2, 2));
        x.load(9, 9);
        Check.noSuch("a refused move is none", () -> x.moved(3, 0));
        x.unload(1);
        Check.same("unload: the thing", 1, x.moved(3, 1));
        Check.same("unload: 0", 0, x.moved(3, 2));
        x.undo();
        Check.noSuch("an undone one is none", () -> x.moved(3, 0));
    }

    /** "that could be ridden back BRAKED": by NEEDS, and by MOST and BRAKE, to the edge of both. */
    private static void backEdges() {
        Check.same("a new object", 0, new RopeTown().back());
        for (int weight = 1; weight <= 20; weight++) {
            RopeTown x = Check.town("depth 2;needs 3;most 9;brake 4;stone " + weight + " at 2;");
            x.load(0, 1);
            Check.same("no ride", 0, x.back());
            x.ride(1, 2);
            int due = weight >= 3 && weight <= 13 ? 1 : 0;
            Check.same("back by " + weight, due, x.back());
            x.ride(2, 2);
            Check.same("both by " + weight, 2 * due, x.back());
            x.undo();
            Check.same("one by " + weight, due, x.back());
            Check.same("it changes nothing", 1, x.count(8));
        }
        RopeTown y = Check.town("needs 0;");
        for (int i = 1; i <= 60; i++) {
            y.ride(i % 2, i % 3);
            Check.same("all rides", i, y.back());
        }
        RopeTown z = Check.town("depth 2;start 1;needs 0;stone 1 at 1;");
        z.ride(0, 2);
        z.ride(1, 2);
        z.load(0, 0);
        z.ride(2, 0);
        Check.same("the last couldn't: none", 0, z.back());
        z.unload(0);
        z.ride(1, 0);
        z.ride(0, 0);
        Check.same("up to the first that couldn't", 2, z.back());
    }

    /** "(CAP, RULES as they stand then)". */
    private static void backByRules() {
        for (int edge = 0; edge <= 4; edge++) {
            RopeTown x = Check.town("depth 3;needs 0;cap 5;rule depth < " + edge + " or weight = 0;stone 5 at 3;");
            x.load(0, 1);
            boolean isLeft = edge > 3;
            Check.same("edge " + edge, isLeft ? 0 : 5, x.ride(1, 2));
            Check.same("then at 2", isLeft ? 1 : 0, x.back());
        }
        RopeTown y = Check.town("depth 3;needs 0;rule not depth = 1 or weight = 0;stone 5 at 3;");
        y.load(0, 1);
        Check.same("to 2", 0, y.ride(1, 2));
        Check.same("it goes back", 1, y.back());
        y.undo();
        Check.same("to 1", 0, y.ride(2, 2));
        Check.same("where it isn't kept", 0, y.back());
        y.unload(0);
        Check.same("as it was laden", 0, y.back());
    }
}
