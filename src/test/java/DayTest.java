/** Promises 19, 21 and 22: DAYS, AN IMAGE, and how it is as it was again. */
public final class DayTest {
    private static final int NONE = RopeTown.NONE;

    public static void main(String[] args) {
        day();
        noImage();
        imageKeeps();
        imageReplaced();
        imageIsApart();
        imageKeepsEachMove();
        imageLeavesTheRest();
        Check.end("DayTest");
    }

    private static void day() {
        RopeTown x = Check.town("load 5 at 0 to 1;stone 3 at 0;person 2 at 1;water 4 at 1 to 1;");
        Check.same("first", 1, x.day(1));
        Check.same("a stone", NONE, x.day(2));
        Check.same("without an aim", NONE, x.day(4));
        Check.same("one with, one without", NONE, x.day(5));
        Check.same("served at first", 2, x.day(8));
        Check.same("both", 3, x.day(9));
        Check.same("no such thing", NONE, x.day(16));
        Check.same("no such thing", NONE, x.day(128));
        Check.same("all bits", NONE, x.day(-1));
        Check.same("the sign", NONE, x.day(Integer.MIN_VALUE));
        Check.same("none of them", 4, x.day(0));
        Check.same("again", 5, x.day(1));
        Check.same("sixth", 6, x.day(1));
        Check.same("seventh", NONE, x.day(1));
        Check.same("days", 6, x.count(12));
        Check.same("status", 8, x.count(16));
        Check.same("no other status", 0, x.count(14) + x.count(15));
        RopeTown y = Check.town("stone 5 at 0;load 2 at 0 to 1;");
        Check.same("the first without an aim", NONE, y.day(1));
        Check.same("the second", 1, y.day(2));
    }

    private static void noImage() {
        RopeTown x = new RopeTown();
        Check.same("none", 0, x.restore() ? 1 : 0);
        x.image();
        Check.same("one", 1, x.restore() ? 1 : 0);
        Check.tell(x, "x");
        Check.same("behind a fault", 1, x.restore() ? 1 : 0);
        Check.tell(x, "cap 5;");
        Check.same("behind a town", 0, x.restore() ? 1 : 0);
    }

    private static void imageKeeps() {
        RopeTown x = Check.town("depth 2;load 5 at 0 to 2;stone 3 at 2;");
        x.load(0, 0);
        x.load(1, 1);
        x.ride(1, 0);
        x.ride(0, 2);
        x.day(1);
        x.load(9, 9);
        x.image();
        int[] due = counts(x);
        Check.same("cost", 3, x.count(11));
        x.ride(2, 2);
        x.unload(0);
        x.unload(0);
        x.undo();
        x.undo();
        x.undo();
        x.undo();
        x.undo();
        x.unload(1);
        x.load(1, 1);
        x.ride(2, 0);
        x.day(1);
        x.day(64);
        Check.tell(x, "x");
        Check.same("restore", 1, x.restore() ? 1 : 0);
        sameCounts("restored", due, counts(x));
        Check.same("in 0", 0, x.thing(0, 4));
        Check.same("at 0", 0, x.thing(0, 3));
        Check.same("moved", 2, x.moved(3, 2));
        Check.same("moved", 1, x.moved(2, 1));
        Check.same("undo", 3, x.undo());
        Check.same("cost", 0, x.count(11));
        Check.same("at 1", 1, x.count(8));
        Check.same("undo", 2, x.undo());
        Check.same("enough", 0, x.enough(0));
        Check.same("again", 1, x.restore() ? 1 : 0);
        sameCounts("restored twice", due, counts(x));
    }

    private static void imageReplaced() {
        RopeTown x = Check.town("stone 5 at 0;");
        x.image();
        x.load(0, 0);
        x.image();
        x.ride(1, 0);
        x.restore();
        Check.same("the later one", 1, x.count(9));
        Check.same("its state", 0, x.thing(0, 4));
    }

    private static void imageIsApart() {
        RopeTown x = Check.town("stone 5 at 0;load 3 at 0 to 1;");
        x.load(0, 0);
        x.day(2);
        x.image();
        x.undo();
        x.load(1, 0);
        x.day(0);
        x.restore();
        Check.same("row", 0, x.moved(0, 1));
        Check.same("days", 1, x.count(12));
        x.undo();
        x.load(1, 0);
        x.restore();
        Check.same("it isn't changed by what follows", 0, x.moved(0, 1));
        Check.same("nor its state", 1, x.bucket(0, 3));
    }

    private static void imageKeepsEachMove() {
        RopeTown x = Check.town("depth 2;start 1;load 5 at 1 to 2;stone 3 at 1;load 9 at 0 to 1;");
        x.load(0, 0);
        x.ride(0, 2);
        x.load(2, 0);
        x.day(1);
        x.day(5);
        x.image();
        for (int i = 0; i < 3; i++) {
            x.undo();
        }
        x.ride(2, 2);
        x.ride(1, 2);
        x.load(1, 1);
        x.unload(1);
        Check.tell(x, "x");
        x.restore();
        int[][] due = {{0, 0, 0}, {2, 0, 2}, {0, 2, 0}};
        for (int i = 0; i < due.length; i++) {
            for (int what = 0; what < 3; what++) {
                Check.same("moved " + i + " " + what, due[i][what], x.moved(i, what));
            }
        }
        Check.same("cost", 6, x.count(11));
        Check.same("back", 1, x.back());
        Check.same("undo", 2, x.undo());
        Check.same("in 0", 1, x.bucket(0, 3));
        Check.same("undo", 1, x.undo());
        Check.same("at 1", 1, x.count(8));
        Check.same("no cost", 0, x.count(11));
        Check.same("undo", 0, x.undo());
        Check.same("all unloaded", 0, x.bucket(0, 3));
        Check.same("days", 2, x.count(12));
        RopeTown y = Check.town("load 5 at 0 to 1;load 4 at 1 to 0;stone 9 at 0;");
        y.day(1);
        y.image();
        Check.same("0 are enough", 0, y.enough(0));
        Check.tell(y, "load 5 at 0 to 1;load 4 at 1 to 0;stone 9 at 0;");
        y.day(2);
        Check.same("1 is", 1, y.enough(0));
        y.image();
        y.day(3);
        y.restore();
        Check.same("1 is again", 1, y.enough(0));
    }

    private static void imageLeavesTheRest() {
        RopeTown x = Check.town("stone 5 at 0;");
        x.image();
        Check.tell(x, "cap");
        Check.feed(x, "cap 5;");
        Check.same("status", 1, x.count(14));
        x.restore();
        Check.same("status is kept by it", 0, x.count(14));
        Check.same("the tape isn't", 20, x.count(13));
        Check.same("nor is the fault's place", 3, x.fault());
        Check.same("town", 0, x.town(6));
        Check.same("cap", 5, x.count(2));
    }

    private static int[] counts(RopeTown x) {
        int[] all = new int[17];
        for (int what = 0; what < all.length; what++) {
            all[what] = x.count(what);
        }
        return all;
    }

    private static void sameCounts(String what, int[] due, int[] got) {
        for (int i = 0; i < due.length; i++) {
            Check.same(what + " count " + i, due[i], got[i]);
        }
    }
}
