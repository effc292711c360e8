/** Promises 6 to 15: things, buckets, MOVES and their TROUBLES, THE ROW, BACK. */
public final class MoveTest {
    private static final int NONE = RopeTown.NONE;

    public static void main(String[] args) {
        thing();
        bucket();
        bucketRules();
        load();
        unload();
        poured();
        ride();
        rideLimits();
        ropeWeighs();
        sixAheadOfSeven();
        capAheadOfRules();
        rulesAheadOfRide();
        winding();
        windingWithNeedsAboveMost();
        may();
        fullRow();
        undo();
        moved();
        back();
        backRules();
        Check.end("MoveTest");
    }

    private static void thing() {
        RopeTown x = Check.town("depth 3;load 5 at 0 to 3;stone 4 at 3;water 6 at 0 to 2;");
        x.load(0, 0);
        x.load(1, 1);
        Check.same("bucket", 0, x.thing(0, 4));
        Check.same("bucket", 1, x.thing(1, 4));
        Check.same("bucket", NONE, x.thing(2, 4));
        x.ride(3, 2);
        Check.same("depth in a bucket", 3, x.thing(0, 3));
        Check.same("depth in a bucket", 0, x.thing(1, 3));
        Check.same("in a bucket it is not served", 0, x.thing(0, 5));
        x.unload(0);
        Check.same("served", 1, x.thing(0, 5));
        Check.same("depth", 3, x.thing(0, 3));
        Check.same("without an aim", 0, x.thing(1, 5));
        for (int t : new int[] {-1, 3, 7, 8, Integer.MAX_VALUE, Integer.MIN_VALUE}) {
            Check.noSuch("thing " + t, () -> x.thing(t, 0));
        }
        for (int w : new int[] {-1, 6, Integer.MAX_VALUE, Integer.MIN_VALUE}) {
            Check.noSuch("thing what " + w, () -> x.thing(0, w));
        }
    }

    private static void bucket() {
        RopeTown x = Check.town("depth 5;start 2;rope 3;load 5 at 2;stone 4 at 3;water 6 at 2;person 7 at 3;");
        x.load(0, 0);
        x.load(2, 0);
        x.load(1, 1);
        int[][] due = {{11, 17, 2, 5, NONE}, {4, 13, 3, 2, NONE}};
        for (int b = 0; b < 2; b++) {
            for (int w = 0; w < 5; w++) {
                Check.same("bucket " + b + " " + w, due[b][w], x.bucket(b, w));
            }
        }
        for (int b : new int[] {-1, 2, Integer.MAX_VALUE, Integer.MIN_VALUE}) {
            Check.noSuch("bucket " + b, () -> x.bucket(b, 0));
        }
        for (int w : new int[] {-1, 5, Integer.MAX_VALUE, Integer.MIN_VALUE}) {
            Check.noSuch("bucket what " + w, () -> x.bucket(0, w));
        }
    }

    private static void bucketRules() {
        RopeTown x = Check.town("depth 2;start 1;load 5 at 1;person 6 at 1;stone 7 at 1;water 8 at 1;"
            + "rule loads + people * 10 + stones * 100 + waters * 1000 = 1010;rule weight = 14;rule other = 12;"
            + "rule depth = 1;");
        x.load(1, 0);
        Check.same("first rule", 0, x.bucket(0, 4));
        x.load(3, 0);
        Check.same("other is 0", 2, x.bucket(0, 4));
        x.load(0, 1);
        x.load(2, 1);
        Check.same("all are kept", NONE, x.bucket(0, 4));
        Check.same("bucket 1 doesn't", 0, x.bucket(1, 4));
        RopeTown y = Check.town("depth 4;start 1;rule depth = 3;rule 0;");
        Check.same("bucket 0 at 1", 0, y.bucket(0, 4));
        Check.same("bucket 1 at 3", 1, y.bucket(1, 4));
    }

    private static void load() {
        RopeTown x = Check.town("depth 3;load 5 at 0 to 3;stone 4 at 3;water 6 at 0 to 0;person 9 at 1;");
        Check.same("no thing", 1, x.load(4, 0));
        Check.same("no thing", 1, x.load(-1, 0));
        Check.same("no bucket", 1, x.load(0, 2));
        Check.same("no bucket", 1, x.load(2, -1));
        Check.same("served at first", 2, x.load(2, 0));
        Check.same("served, and the other bucket elsewhere", 2, x.load(2, 1));
        Check.same("not there", 3, x.load(0, 1));
        Check.same("not there", 3, x.load(3, 0));
        Check.same("loaded", 0, x.load(0, 0));
        Check.same("in a bucket", 2, x.load(0, 0));
        Check.same("in a bucket", 2, x.load(0, 1));
        Check.same("row", 1, x.count(9));
        Check.same("status", 10, x.count(15));
        Check.same("loaded", 0, x.load(1, 1));
        Check.same("things", 2, x.bucket(1, 3));
        RopeTown y = Check.town("depth 4;start 2;stone 1 at 2;stone 2 at 2;");
        Check.same("both buckets are there", 0, y.load(0, 1));
        Check.same("both buckets are there", 0, y.load(1, 0));
        Check.same("more than cap may be loaded", 0, Check.town("cap 1;stone 99 at 0;").load(0, 0));
    }

    private static void unload() {
        RopeTown x = Check.town("depth 3;load 5 at 0 to 3;stone 4 at 3;");
        Check.same("no thing", 1, x.unload(2));
        Check.same("no thing", 1, x.unload(-1));
        Check.same("in none", 2, x.unload(0));
        x.load(0, 0);
        Check.same("unloaded", 0, x.unload(0));
        Check.same("depth", 0, x.thing(0, 3));
        Check.same("bucket", NONE, x.thing(0, 4));
        x.load(0, 0);
        x.ride(2, 0);
        Check.same("unloaded elsewhere", 0, x.unload(0));
        Check.same("depth", 2, x.thing(0, 3));
        Check.same("not served", 0, x.thing(0, 5));
        x.load(0, 0);
        x.ride(3, 0);
        x.unload(0);
        Check.same("served", 1, x.thing(0, 5));
        Check.same("loaded no more", 2, x.load(0, 0));
        Check.same("status", 4, x.count(15));
    }

    private static void poured() {
        RopeTown x = Check.town("depth 2;water 5 at 0 to 1;water 6 at 0;");
        x.load(0, 0);
        x.load(1, 0);
        Check.same("unloaded where it was", 0, x.unload(0));
        Check.same("it is not poured", 0, x.thing(0, 3));
        x.load(0, 0);
        x.ride(1, 0);
        x.unload(0);
        x.unload(1);
        Check.same("poured", NONE, x.thing(0, 3));
        Check.same("in no bucket", NONE, x.thing(0, 4));
        Check.same("served", 1, x.thing(0, 5));
        Check.same("without an aim it isn't", 1, x.thing(1, 3));
        Check.same("nor served", 0, x.thing(1, 5));
        Check.same("load", 2, x.load(0, 0));
        Check.same("unload", 2, x.unload(0));
        Check.same("load the other", 0, x.load(1, 1));
    }

    private static void ride() {
        RopeTown x = Check.town("depth 3;start 1;stone 5 at 1;");
        Check.same("no depth", 1, x.ride(4, 0));
        Check.same("no depth", 1, x.ride(-1, 0));
        Check.same("no how", 1, x.ride(2, 3));
        Check.same("no how", 1, x.ride(2, -1));
        Check.same("no how, and there", 1, x.ride(1, 3));
        Check.same("there already", 3, x.ride(1, 0));
        Check.same("there already", 3, x.ride(1, 2));
        Check.same("nothing is heavy", 6, x.ride(2, 0));
        Check.same("nothing is heavy", 6, x.ride(2, 1));
        x.load(0, 0);
        Check.same("up it doesn't go", 6, x.ride(0, 0));
        Check.same("down it goes", 0, x.ride(3, 0));
        Check.same("at", 3, x.count(8));
        Check.same("bucket 1 at", 0, x.bucket(1, 2));
        Check.same("rides", 1, x.count(10));
        Check.same("status", 10, x.count(15));
    }

    private static void rideLimits() {
        String head = "depth 2;needs 4;most 10;brake 5;stone ";
        int[][] due = {{3, 6, 6, 1, 0}, {4, 0, 0, 0, 0}, {10, 0, 0, 0, 0}, {11, 7, 0, 0, 0}, {15, 7, 0, 0, 0},
            {16, 7, 7, 1, 0}, {20, 7, 7, 5, 0}};
        for (int[] row : due) {
            for (int how = 0; how < 3; how++) {
                RopeTown x = Check.town(head + row[0] + " at 0;");
                x.load(0, 0);
                String what = "weight " + row[0] + " how " + how;
                Check.same(what, how == 2 ? 0 : row[1 + how], x.ride(1, how));
                Check.same(what + " cost", how == 2 ? row[3] : 0, x.count(11));
            }
        }
        RopeTown y = Check.town("needs 0;");
        Check.same("no need: empty ones go", 0, y.ride(1, 0));
        Check.same("and up", 0, y.ride(0, 0));
    }

    private static void ropeWeighs() {
        // The SIDES differ by 2 for each step of the two that BUCKET 0 goes: at 0 by -4, at 1 by 0, at 2 by 4.
        RopeTown x = Check.town("depth 4;rope 1;most 4;stone 5 at 0;");
        x.load(0, 0);
        Check.same("side 0", 5, x.bucket(0, 1));
        Check.same("side 1", 4, x.bucket(1, 1));
        Check.same("one step: 1", 7, x.may(1));
        Check.same("two steps: 1, 3", 7, x.may(2));
        Check.same("three steps: 1, 3, 5", 7, x.ride(3, 0));
        Check.same("wound: 5 and 7 are too much by 1 and 3", 4, x.winding(4));
        Check.same("ride", 0, x.ride(4, 2));
        Check.same("cost", 4, x.count(11));
        Check.same("back up: -9, -7, -5, -3", 10 + 8 + 6 + 4, x.winding(0));
    }

    private static void sixAheadOfSeven() {
        // BUCKET 0 goes up from 2: BUCKET 1 has 10 more, then the rope takes 8 off it at each step.
        RopeTown x = Check.town("depth 2;start 2;rope 4;most 1;stone 10 at 0;");
        x.load(0, 1);
        Check.same("2, then 10", 7, x.ride(0, 0));
        RopeTown y = Check.town("depth 2;start 0;rope 4;most 1;stone 6 at 2;stone 14 at 0;");
        y.load(1, 0);
        Check.same("6, then 14", 7, y.ride(2, 0));
        y.load(0, 1);
        Check.same("0, then 8: 6 ahead of 7", 6, y.ride(2, 0));
        RopeTown z = Check.town("depth 2;start 0;rope 0;needs 9;most 1;stone 6 at 0;");
        z.load(0, 0);
        Check.same("below NEEDS and above MOST", 6, z.ride(2, 0));
    }

    private static void capAheadOfRules() {
        RopeTown x = Check.town("cap 10;most 99;rule weight < 11;stone 10 at 0;stone 1 at 0;stone 11 at 1;");
        x.load(0, 0);
        Check.same("as much as cap", 7, x.may(1));
        x.load(1, 0);
        for (int how = 0; how < 3; how++) {
            Check.same("cap", 4, x.ride(1, how));
        }
        x.undo();
        x.load(2, 1);
        Check.same("cap of bucket 1", 4, x.ride(1, 2));
    }

    private static void rulesAheadOfRide() {
        RopeTown x = Check.town("depth 3;rule depth < 3 or weight = 0;stone 10 at 0;stone 4 at 3;");
        x.load(0, 0);
        Check.same("it is kept ahead of the ride", 0, x.ride(3, 0));
        Check.same("but not behind it", 5, x.ride(1, 2));
        x.undo();
        x.load(1, 1);
        Check.same("bucket 1 keeps it as well", 5, x.ride(1, 0));
        Check.same("by no how", 0, x.may(1));
    }

    private static void winding() {
        RopeTown x = Check.town("depth 3;start 1;needs 2;most 5;brake 1;cap 4;stone 8 at 1;rule 0;");
        Check.same("no depth", NONE, x.winding(-1));
        Check.same("no depth", NONE, x.winding(4));
        Check.same("there already", NONE, x.winding(1));
        Check.same("empty", 4, x.winding(3));
        x.load(0, 0);
        Check.same("whatever cap and rules say", 4, x.winding(3));
        Check.same("up", 10, x.winding(0));
        Check.same("it changes nothing", 0, x.count(11));
    }

    private static void windingWithNeedsAboveMost() {
        RopeTown x = Check.town("needs 9;most 2;brake 1;stone 5 at 0;stone 4 at 0;");
        x.load(0, 0);
        Check.same("what it is less than NEEDS", 4, x.winding(1));
        x.load(1, 0);
        Check.same("9 is more than MOST and BRAKE", 6, x.winding(1));
    }

    private static void may() {
        RopeTown x = Check.town("depth 3;most 4;brake 4;stone 4 at 0;stone 3 at 0;stone 9 at 3;");
        Check.same("no such", 0, x.may(4));
        Check.same("no such", 0, x.may(-1));
        Check.same("there", 0, x.may(0));
        Check.same("wound alone", 4, x.may(1));
        x.load(0, 0);
        Check.same("all", 7, x.may(3));
        x.load(1, 0);
        Check.same("braked, wound", 6, x.may(3));
        x.load(2, 1);
        Check.same("wound", 4, x.may(3));
        Check.same("status", 0, x.count(15));
    }

    private static void fullRow() {
        RopeTown x = Check.town("stone 5 at 0;stone 6 at 1;");
        for (int i = 0; i < 30; i++) {
            Check.same("load", 0, x.load(0, 0));
            Check.same("unload", 0, x.unload(0));
        }
        Check.same("moves", 60, x.count(9));
        Check.same("load", 8, x.load(0, 0));
        Check.same("ride", 8, x.ride(1, 2));
        Check.same("a lesser one", 2, x.unload(0));
        Check.same("a lesser one", 3, x.load(1, 0));
        Check.same("a lesser one", 6, x.ride(1, 0));
        Check.same("none may", 0, x.may(1));
        Check.same("winding", 1, x.winding(1));
        Check.same("status", 5, x.count(15));
        Check.same("the last", 1, x.moved(59, 0));
        Check.noSuch("no 61st", () -> x.moved(60, 0));
        Check.same("undo", 59, x.undo());
        Check.same("it is in it again", 0, x.thing(0, 4));
        Check.same("ride", 0, x.ride(1, 0));
        Check.same("unload", 8, x.unload(0));
    }

    private static void undo() {
        RopeTown x = Check.town("depth 2;most 2;water 5 at 0 to 2;stone 3 at 2;");
        Check.same("none", NONE, x.undo());
        x.load(0, 0);
        x.load(1, 1);
        x.ride(1, 2);
        x.unload(0);
        x.load(0, 1);
        x.ride(0, 2);
        x.unload(0);
        Check.same("poured", NONE, x.thing(0, 3));
        Check.same("8 is too much by 6", 6, x.count(11));
        Check.same("undo", 6, x.undo());
        Check.same("in 1 again", 1, x.thing(0, 4));
        Check.same("undo", 5, x.undo());
        Check.same("at", 1, x.count(8));
        Check.same("cost", 0, x.count(11));
        Check.same("rides", 1, x.count(10));
        Check.same("undo", 4, x.undo());
        Check.same("on the ground", NONE, x.thing(0, 4));
        Check.same("at 1", 1, x.thing(0, 3));
        Check.same("undo", 3, x.undo());
        Check.same("in 0", 0, x.thing(0, 4));
        Check.same("undo", 2, x.undo());
        Check.same("at", 0, x.count(8));
        Check.same("undo", 1, x.undo());
        Check.same("undo", 0, x.undo());
        Check.same("at 0", 0, x.thing(0, 3));
        Check.same("none", NONE, x.undo());
        Check.same("status", 0, x.count(15));
    }

    private static void moved() {
        RopeTown x = Check.town("depth 3;stone 5 at 0;stone 4 at 3;");
        x.load(1, 1);
        x.load(0, 0);
        x.ride(2, 0);
        x.ride(3, 2);
        x.unload(1);
        x.unload(9);
        int[][] due = {{0, 1, 1}, {0, 0, 0}, {2, 2, 0}, {2, 3, 2}, {1, 1, 0}};
        for (int i = 0; i < due.length; i++) {
            for (int w = 0; w < 3; w++) {
                Check.same("moved " + i + " " + w, due[i][w], x.moved(i, w));
            }
        }
        for (int i : new int[] {-1, 5, 60, Integer.MAX_VALUE, Integer.MIN_VALUE}) {
            Check.noSuch("moved " + i, () -> x.moved(i, 0));
        }
        for (int w : new int[] {-1, 3, Integer.MAX_VALUE, Integer.MIN_VALUE}) {
            Check.noSuch("moved what " + w, () -> x.moved(0, w));
        }
        x.undo();
        Check.noSuch("undone", () -> x.moved(4, 0));
    }

    private static void back() {
        RopeTown x = Check.town("depth 2;most 5;brake 3;stone 8 at 2;");
        Check.same("none", 0, x.back());
        x.ride(2, 2);
        Check.same("empty it doesn't go back", 0, x.back());
        x.undo();
        x.load(0, 1);
        x.ride(2, 2);
        Check.same("the heavy one goes down again, braked", 1, x.back());
        x.unload(0);
        Check.same("laden as it was", 1, x.back());
        x.load(0, 1);
        x.ride(1, 1);
        Check.same("the last one can't", 0, x.back());
        x.ride(2, 2);
        Check.same("one, up to the first that can't", 1, x.back());
        RopeTown y = Check.town("depth 2;most 5;brake 2;stone 8 at 2;");
        y.load(0, 1);
        y.ride(2, 2);
        Check.same("too much", 0, y.back());
        RopeTown z = Check.town("depth 3;needs 0;");
        z.ride(2, 0);
        z.ride(1, 0);
        z.ride(3, 2);
        Check.same("all three", 3, z.back());
    }

    private static void backRules() {
        RopeTown x = Check.town("depth 3;needs 0;rule depth < 3 or other = 0;stone 5 at 3;");
        x.load(0, 1);
        Check.same("as they stand ahead of it", 0, x.ride(3, 2));
        Check.same("as they stand then: bucket 0 is at 3", 0, x.back());
        x.undo();
        x.ride(2, 2);
        Check.same("at 2 it is kept", 1, x.back());
        x.ride(3, 2);
        x.unload(0);
        x.ride(2, 2);
        Check.same("the last one alone", 1, x.back());
    }
}
