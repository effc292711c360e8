import java.util.NoSuchElementException;
import java.util.function.IntSupplier;

/** What the tests share: how a text is told, and how an answer is compared. */
final class Check {
    private static int wrong = 0;
    private static int asked = 0;

    private Check() {
    }

    static void same(String what, long due, long got) {
        asked++;
        if (due != got) {
            wrong++;
            System.out.println(what + ": answered " + got + ", due is " + due);
        }
    }

    static void sameText(String what, String due, String got) {
        asked++;
        if (!due.equals(got)) {
            wrong++;
            System.out.println(what + ": answered \"" + got + "\", due is \"" + due + "\"");
        }
    }

    static void noSuch(String what, IntSupplier call) {
        asked++;
        try {
            int got = call.getAsInt();
            wrong++;
            System.out.println(what + ": answered " + got + ", due is NoSuchElementException");
        } catch (NoSuchElementException e) {
            // as due
        }
    }

    static void illegal(String what, IntSupplier call) {
        asked++;
        try {
            int got = call.getAsInt();
            wrong++;
            System.out.println(what + ": answered " + got + ", due is IllegalArgumentException");
        } catch (IllegalArgumentException e) {
            // as due
        }
    }

    /** Feeds a text, whose length may be anything up to 600, with blanks behind it. */
    static void feed(RopeTown x, String text) {
        for (int from = 0; from < text.length(); from += 20) {
            int[] five = new int[5];
            for (int i = 0; i < 20; i++) {
                int b = from + i < text.length() ? text.charAt(from + i) : ' ';
                five[i / 4] = five[i / 4] << 8 | b & 255;
            }
            x.feed(five[0], five[1], five[2], five[3], five[4]);
        }
    }

    static int tell(RopeTown x, String text) {
        feed(x, text);
        return x.town(text.length());
    }

    static RopeTown town(String text) {
        RopeTown x = new RopeTown();
        same("town \"" + text + "\"", 0, tell(x, text));
        return x;
    }

    static void fault(String text, int fault, int place) {
        RopeTown x = new RopeTown();
        same("fault of \"" + text + "\"", fault, tell(x, text));
        same("place in \"" + text + "\"", fault == 0 ? RopeTown.NONE : place, x.fault());
        same("status by \"" + text + "\"", fault == 0 ? 0 : 1, x.count(14));
    }

    static void end(String test) {
        System.out.println(test + ": " + asked + " asked, " + wrong + " wrong");
        if (wrong != 0) {
            System.exit(1);
        }
    }
}
