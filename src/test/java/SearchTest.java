/** Promises 16 to 18 and 20: the fewest RIDES, the least winding, REACH, BARS, ENOUGH. */
public final class SearchTest {
    private static final int NONE = RopeTown.NONE;
    private static final int SPENT = -2;
    private static final String SERVED_AMONG_MANY = "depth 11;needs 0;most 99;load 5 at 1 to 1;stone 4 at 4;"
        + "stone 3 at 3;water 1 at 0 to 11;stone 2 at 2;";

    public static void main(String[] args) {
        fewest();
        fewestFromNow();
        leastWinding();
        changeOver();
        servedStays();
        waterServes();
        rulesAndCap();
        spentEdge();
        spentThoughServed();
        eachTownAnew();
        reach();
        reachServed();
        bars();
        barsSmallest();
        barsServed();
        enough();
        enoughDays();
        enoughFromTheFirstState();
        enoughSpent();
        wrong();
        Check.end("SearchTest");
    }

    private static void fewest(String text, int rides, int winding) {
        RopeTown x = Check.town(text);
        Check.same("fewest 0 of " + text, rides, x.fewest(0));
        Check.same("fewest 1 of " + text, winding, x.fewest(1));
        Check.same("it changes nothing", 0, x.count(9));
    }

    private static void fewest() {
        fewest("", 0, 0);
        fewest("load 5 at 0;", 0, 0);
        fewest("load 5 at 1 to 1;", 0, 0);
        fewest("load 5 at 0 to 1;", 1, 0);
        fewest("depth 9;load 5 at 0 to 9;", 1, 0);
        // up by no weight: by hand 1 for nothing and 5 for it
        fewest("load 5 at 1 to 0;", NONE, 6);
        // with a heavier stone above it goes up
        fewest("load 5 at 1 to 0;stone 6 at 0;", 1, 0);
        fewest("load 5 at 1 to 0;stone 5 at 0;", NONE, 1);
        // the bucket that came up takes the next one down
        fewest("load 5 at 0 to 1;load 6 at 0 to 1;cap 6;", 2, 0);
        fewest("load 5 at 0 to 1;load 6 at 0 to 1;load 6 at 0 to 1;cap 6;", 3, 0);
        // too heavy to go free, braked it goes
        fewest("most 4;load 5 at 0 to 1;", NONE, 1);
        fewest("most 4;brake 1;load 5 at 0 to 1;", 1, 0);
        // a counterweight for what is too heavy
        fewest("most 4;load 5 at 0 to 1;stone 2 at 1;", 1, 0);
        // bucket 1 is there already; neither is, and only a stone's weight brings one
        fewest("depth 2;start 2;load 5 at 0 to 2;", 1, 0);
        fewest("depth 2;start 1;load 5 at 0 to 2;", NONE, 1);
        fewest("depth 2;start 1;load 5 at 0 to 2;stone 1 at 1;", 2, 0);
    }

    private static void fewestFromNow() {
        RopeTown x = Check.town("depth 2;load 5 at 0 to 2;load 7 at 0 to 1;");
        Check.same("two", 2, x.fewest(0));
        x.load(0, 0);
        x.load(1, 0);
        Check.same("two", 2, x.fewest(0));
        x.ride(1, 0);
        Check.same("one is in a bucket at its aim, the other not", 1, x.fewest(0));
        x.ride(2, 0);
        Check.same("it went on, and can't come back", NONE, x.fewest(0));
        Check.same("by hand it can", 1 + 7, x.fewest(1));
        x.undo();
        x.unload(1);
        x.ride(2, 0);
        Check.same("all is served, though one is in the bucket", 0, x.fewest(0));
        Check.same("thing", 0, x.thing(0, 5));
    }

    private static void leastWinding() {
        // rope 2: down from 0 by -4 + 3, then 3: by hand 2
        fewest("depth 2;rope 2;load 3 at 0 to 2;", NONE, 2);
        // 4 too little, and 1 that it needs, at each step
        fewest("depth 2;load 9 at 2 to 0;stone 5 at 0;", NONE, 10);
        fewest("depth 1;load 9 at 1 to 0;stone 5 at 0;stone 5 at 0;", 1, 0);
        fewest("depth 1;load 9 at 1 to 0;stone 5 at 0;stone 6 at 1;", NONE, 5);
        // needs 0: balanced ones run
        fewest("needs 0;load 9 at 1 to 0;stone 9 at 0;", 1, 0);
        // a rule that nothing keeps
        fewest("load 9 at 0 to 1;rule 0;", NONE, NONE);
        fewest("load 9 at 1 to 1;rule 0;", 0, 0);
    }

    private static void changeOver() {
        // both buckets meet at 1
        RopeTown x = Check.town("depth 2;load 3 at 2 to 0;stone 9 at 0;");
        Check.same("up by the stone", 1, x.fewest(0));
        x.load(0, 1);
        x.load(1, 0);
        x.ride(1, 0);
        Check.same("halfway it may change over, or stay", 1, x.fewest(0));
        x.unload(0);
        x.load(0, 0);
        x.unload(1);
        x.load(1, 1);
        Check.same("changed", 1, x.fewest(0));
        Check.same("reach", 7, x.reach(0));
    }

    private static void servedStays() {
        // Thing 0 could serve as a weight, but at its AIM it is loaded no more.
        RopeTown x = Check.town("depth 2;load 9 at 0 to 0;load 5 at 2 to 0;");
        Check.same("it can't be", NONE, x.fewest(0));
        Check.same("by hand", 2 * 6, x.fewest(1));
        RopeTown y = Check.town("depth 2;load 9 at 0;load 5 at 2 to 0;");
        Check.same("without an aim it helps", 1, y.fewest(0));
        // In a BUCKET at its AIM it rides on, as long as it isn't unloaded, but it can't change over.
        RopeTown z = Check.town("depth 2;load 9 at 0 to 1;load 5 at 2 to 0;");
        Check.same("over its aim, and no way back", NONE, z.fewest(0));
        z.load(0, 0);
        z.ride(1, 0);
        Check.same("reach: on, or unloaded here", 6, z.reach(0));
    }

    private static void waterServes() {
        RopeTown x = Check.town("depth 2;water 5 at 0 to 2;");
        x.load(0, 0);
        x.ride(2, 0);
        Check.same("in the bucket at its aim", 0, x.fewest(0));
        x.unload(0);
        Check.same("poured", 0, x.fewest(0));
        Check.same("poured", 0, x.fewest(1));
    }

    private static void rulesAndCap() {
        fewest("depth 2;most 99;rule not (people = 1 and loads = 1);load 9 at 0 to 2;person 9 at 0 to 2;", 2, 0);
        fewest("depth 2;most 99;load 9 at 0 to 2;person 9 at 0 to 2;", 1, 0);
        fewest("most 99;cap 17;load 9 at 0 to 1;person 9 at 0 to 1;", 2, 0);
        fewest("most 99;cap 18;load 9 at 0 to 1;person 9 at 0 to 1;", 1, 0);
        // no bucket may be laden at 0: the person can't leave
        fewest("rule weight = 0 or not depth = 0;person 9 at 0 to 1;", NONE, NONE);
        // a rule of the other bucket's weight: what goes down wants a counterweight
        fewest("rule weight = 0 or not other = 0;person 9 at 0 to 1;", NONE, NONE);
        fewest("rule weight = 0 or not other = 0;person 9 at 0 to 1;stone 5 at 1;", 1, 0);
    }

    /**
     * By hand an empty rope goes anywhere; each thing is at D + 1 depths or in two buckets, and so there are
     * (D + 1) * (D + 3) ^ things STATES if they may go anywhere.
     */
    private static void spentEdge() {
        // 12 * 14 = 168; of two 12 * 196 = 2352; of two at D 9: 10 * 144 = 1440; at D 10: 11 * 169 = 1859
        Check.same("1440", 0, Check.town("depth 9;stone 1 at 0;stone 1 at 0;").fewest(1));
        Check.same("1859", SPENT, Check.town("depth 10;stone 1 at 0;stone 1 at 0;").fewest(1));
        Check.same("2352", SPENT, Check.town("depth 11;stone 1 at 0;stone 1 at 0;").fewest(1));
        Check.same("168", 0, Check.town("depth 11;stone 1 at 0;").fewest(1));
        // D 2: 3 * 5 ^ 3 = 375, 3 * 5 ^ 4 = 1875; D 3: 4 * 6 ^ 3 = 864; D 4: 5 * 7 ^ 3 = 1715
        Check.same("375", 0, Check.town("depth 2;stone 1 at 0;stone 1 at 0;stone 1 at 0;").fewest(1));
        Check.same("1875", SPENT, Check.town("depth 2;stone 1 at 0;stone 1 at 0;stone 1 at 0;stone 1 at 0;").fewest(1));
        Check.same("864", 0, Check.town("depth 3;stone 1 at 0;stone 1 at 0;stone 1 at 0;").fewest(1));
        Check.same("1715", SPENT, Check.town("depth 4;stone 1 at 0;stone 1 at 0;stone 1 at 0;").fewest(1));
        // exactly as many as may be, and one more
        spentOrNot("depth 5;needs 0;start 0;stone 7 at 0;water 9 at 3 to 4;load 6 at 0 to 1;", 2);
        spentOrNot("depth 3;needs 0;stone 3 at 2;load 3 at 3 to 0;stone 7 at 0;load 3 at 3 to 1;", 2);
        spentOrNot("depth 6;cap 9;stone 5 at 3;load 6 at 5 to 6;water 1 at 5 to 4;stone 5 at 0;", SPENT);
        spentOrNot("depth 4;cap 8;load 2 at 3 to 2;load 6 at 2 to 1;stone 1 at 3;load 4 at 3 to 3;stone 7 at 0;", SPENT);
        // by weight alone they can't even start
        Check.same("1859 by hand, few by weight", 0, Check.town("depth 10;stone 1 at 0;stone 1 at 0;").fewest(0));
        // needs 0: empty ones go anywhere by weight
        Check.same("by weight", SPENT,
            Check.town("depth 10;needs 0;most 99;stone 1 at 0;stone 1 at 0;load 5 at 0 to 9;").fewest(0));
    }

    private static void spentOrNot(String text, int due) {
        RopeTown x = Check.town(text);
        Check.same("fewest 0 of " + text, due, x.fewest(0));
        Check.same("reach of " + text, due == SPENT ? 1 : 0, x.reach(0) == SPENT ? 1 : 0);
        Check.same("bars of " + text, due == SPENT ? 1 : 0, x.bars(0, 0) == SPENT ? 1 : 0);
    }

    /** What is asked of a town is not answered by what another one with the same first state was asked. */
    private static void eachTownAnew() {
        RopeTown x = Check.town("load 5 at 0 to 1;stone 3 at 0;");
        Check.same("it goes", 1, x.fewest(0));
        Check.tell(x, "needs 6;load 5 at 0 to 1;stone 3 at 0;");
        Check.same("with the stone alone", 2, x.bars(0, 1));
        Check.tell(x, "rule loads = 0;load 5 at 0 to 1;stone 3 at 0;");
        Check.same("it may not", NONE, x.fewest(0));
        Check.tell(x, "rule stones = 0;load 5 at 0 to 1;stone 3 at 0;");
        Check.same("it may", 1, x.fewest(0));
        Check.tell(x, "load 7 at 0 to 1;stone 3 at 0;needs 6;cap 6;");
        Check.same("it may not", NONE, x.fewest(0));
        Check.tell(x, "x");
        Check.same("still not", NONE, x.fewest(0));
    }

    private static void spentThoughServed() {
        RopeTown x = Check.town("depth 11;load 1 at 0 to 11;load 1 at 0 to 11;");
        Check.same("by weight", 1, x.fewest(0));
        Check.same("by hand", SPENT, x.fewest(1));
        RopeTown y = Check.town("depth 11;stone 1 at 0;stone 2 at 11;load 1 at 5 to 5;");
        Check.same("all is served, and yet", SPENT, y.fewest(1));
    }

    private static void reach() {
        RopeTown x = Check.town("depth 4;load 5 at 0 to 3;stone 3 at 4;stone 4 at 2;");
        Check.same("the load goes down", 0b11111, x.reach(0));
        Check.same("the stone comes up", 0b11111, x.reach(1));
        Check.same("it is under way", 0b11111, x.reach(2));
        RopeTown y = Check.town("depth 4;stone 5 at 1;stone 4 at 4;");
        Check.same("no bucket comes there", 0b00010, y.reach(0));
        Check.same("in bucket 1, but nothing draws it up", 0b10000, y.reach(1));
        y.load(1, 1);
        Check.same("where its bucket is", 0b10000, y.reach(1));
        y.ride(2, 2);
        Check.same("halfway it changes over, and then the other one draws it up", 0b11111, y.reach(1));
        Check.same("which comes up no more", 0b11110, y.reach(0));
        RopeTown z = Check.town("depth 11;needs 0;most 99;stone 5 at 1;stone 4 at 4;stone 3 at 3;");
        Check.same("spent", SPENT, z.reach(0));
    }

    private static void reachServed() {
        RopeTown x = Check.town("depth 3;load 5 at 0 to 0;water 9 at 0 to 3;");
        Check.same("served at first", 1, x.reach(0));
        Check.same("water", 0b1111, x.reach(1));
        x.load(1, 0);
        x.ride(3, 0);
        Check.same("at the aim", 0b1000, x.reach(1));
        x.unload(1);
        Check.same("poured", 0, x.reach(1));
        RopeTown w = Check.town("depth 3;start 1;needs 0;water 5 at 1 to 3;");
        Check.same("poured on the way it is nowhere", 0b1110, w.reach(0));
        RopeTown y = Check.town(SERVED_AMONG_MANY);
        Check.same("spent", SPENT, y.reach(1));
        Check.same("served, whatever else", 2, y.reach(0));
        y.load(3, 0);
        y.ride(11, 2);
        y.unload(3);
        Check.same("poured, whatever else", 0, y.reach(3));
        Check.same("still spent", SPENT, y.reach(2));
    }

    private static void bars() {
        RopeTown x = Check.town("depth 3;most 3;load 5 at 0 to 3;stone 4 at 3;");
        Check.same("without the stone it is too heavy", 2, x.bars(0, 3));
        Check.same("where it is it stays", NONE, x.bars(0, 0));
        Check.same("without the load", 1, x.bars(1, 0));
        RopeTown y = Check.town("depth 3;stone 5 at 1;stone 4 at 0;");
        Check.same("it isn't anyhow: no bucket comes for it in time", 0, y.bars(0, 0));
        Check.same("it goes alone", NONE, y.bars(1, 3));
        RopeTown z = Check.town("depth 11;needs 0;most 99;stone 5 at 1;stone 4 at 4;stone 3 at 3;");
        Check.same("spent", SPENT, z.bars(0, 0));
        Check.same("spent, though it is there", SPENT, z.bars(0, 1));
        RopeTown one = Check.town("load 5 at 0;");
        Check.same("no others", NONE, one.bars(0, 1));
        Check.same("the only one, from 1", 0, Check.town("load 5 at 1;").bars(0, 0));
    }

    private static void barsSmallest() {
        // either stone draws it up: only without both it stays
        RopeTown x = Check.town("load 5 at 1;stone 6 at 0;stone 7 at 0;");
        Check.same("both", 6, x.bars(0, 0));
        // both stones are wanted: without the first it stays
        RopeTown y = Check.town("load 9 at 1;stone 6 at 0;stone 7 at 0;");
        Check.same("either: the least", 2, y.bars(0, 0));
        // the stone 20 does it alone, or two of the three small ones
        RopeTown z = Check.town("load 9 at 1;stone 5 at 0;stone 5 at 0;stone 5 at 0;stone 20 at 0;");
        Check.same("three of four: the big one and two", 0b10110, z.bars(0, 0));
        x.load(1, 0);
        Check.same("in a bucket it can be missing as well", 6, x.bars(0, 0));
        // one who must go along
        RopeTown p = Check.town("rule loads = 0 or people = 1;load 5 at 0;person 4 at 0;person 4 at 0;most 99;");
        Check.same("either person goes along", 6, p.bars(0, 1));
    }

    private static void barsServed() {
        RopeTown x = Check.town(SERVED_AMONG_MANY);
        Check.same("served: its depth alone", NONE, x.bars(0, 1));
        Check.same("served: no other one", 0, x.bars(0, 2));
        x.load(3, 0);
        x.ride(11, 2);
        x.unload(3);
        Check.same("poured: none", 0, x.bars(3, 11));
        Check.same("poured: none", 0, x.bars(3, 0));
    }

    private static void enough(String text, int k, int fails, int... days) {
        RopeTown x = Check.town(text);
        for (int day : days) {
            x.day(day);
        }
        Check.same("enough 0 of " + text, k, x.enough(0));
        Check.same("enough 1 of " + text, fails, x.enough(1));
    }

    private static void enough() {
        enough("", 0, NONE);
        enough("load 5 at 1 to 0;", 0, NONE);
        enough("load 5 at 1 to 0;", NONE, NONE, 1);
        enough("load 5 at 1 to 0;", 0, NONE, 0);
        enough("load 5 at 0 to 1;stone 3 at 0;", 0, NONE, 1);
        enough("load 5 at 1 to 0;stone 6 at 0;", 1, 0, 1);
        enough("stone 3 at 0;load 5 at 1 to 0;stone 3 at 0;", 2, 0, 2);
        // the first by number are there: the second alone would be enough, but comes with the first
        enough("stone 3 at 0;load 5 at 1 to 0;stone 6 at 0;stone 9 at 0;", 2, 0, 2);
        // the load of no day, or without an aim, is not there
        enough("load 5 at 1 to 0;load 9 at 0 to 1;load 9 at 0;", NONE, NONE, 1);
        enough("load 5 at 1 to 0;load 9 at 0 to 1;load 9 at 0;", 0, NONE, 3);
    }

    private static void enoughDays() {
        String text = "load 5 at 1 to 0;load 9 at 1 to 0;load 2 at 0 to 1;stone 6 at 0;stone 4 at 0;";
        enough(text, 0, NONE, 4);
        enough(text, 1, 0, 1);
        enough(text, 1, 1, 4, 1);
        enough(text, 2, 0, 2);
        enough(text, 2, 1, 1, 2);
        enough(text, 2, 1, 1, 2, 2, 4, 1, 0);
        enough(text, NONE, NONE, 1, 3);
    }

    private static void enoughFromTheFirstState() {
        RopeTown x = Check.town("load 5 at 1 to 0;stone 6 at 0;");
        x.day(1);
        x.load(0, 1);
        x.ride(1, 2);
        x.unload(0);
        Check.same("now it is served", 0, x.fewest(0));
        Check.same("but not at first", 1, x.enough(0));
        Check.same("fails", 0, x.enough(1));
        RopeTown y = Check.town("depth 2;start 1;load 5 at 1 to 2;");
        y.day(1);
        Check.same("from start on", 0, y.enough(0));
    }

    private static void enoughSpent() {
        String text = "depth 11;needs 0;most 999;load 1 at 0 to 11;load 2 at 0 to 11;load 3 at 1 to 0;"
            + "load 9 at 5 to 11;";
        enough(text, 0, NONE, 1);
        enough(text, SPENT, SPENT, 15);
        enough(text, SPENT, SPENT, 1, 15);
    }

    private static void wrong() {
        RopeTown x = Check.town("depth 2;load 5 at 1 to 0;");
        for (int w : new int[] {-1, 2, Integer.MAX_VALUE, Integer.MIN_VALUE}) {
            Check.noSuch("fewest " + w, () -> x.fewest(w));
            Check.noSuch("enough " + w, () -> x.enough(w));
        }
        for (int t : new int[] {-1, 1, 7, Integer.MAX_VALUE, Integer.MIN_VALUE}) {
            Check.noSuch("reach " + t, () -> x.reach(t));
            Check.noSuch("bars " + t, () -> x.bars(t, 0));
        }
        for (int d : new int[] {-1, 3, 12, Integer.MAX_VALUE, Integer.MIN_VALUE}) {
            Check.noSuch("bars depth " + d, () -> x.bars(0, d));
        }
    }
}
