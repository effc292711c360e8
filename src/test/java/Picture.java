import java.util.LinkedHashMap;
import java.util.Map;
import java.util.NoSuchElementException;
import java.util.function.Supplier;
import java.util.function.ToIntFunction;

/** All that can be asked of an object, by name: for calls that must leave all as it was, or nearly all. */
final class Picture {
    static final int NO_SUCH = 1_000_001;
    static final int ILLEGAL = 1_000_002;
    private static final int FIRST_STATUS = 14;

    private final Map<String, Integer> answers = new LinkedHashMap<>();

    private Picture() {
    }

    /** What is asked here changes nothing. */
    static Picture of(RopeTown x) {
        Picture p = new Picture();
        for (int what = 0; what <= 16; what++) {
            p.answers.put("count " + what, x.count(what));
        }
        p.answers.put("fault", x.fault());
        p.things(x);
        p.buckets(x);
        p.row(x);
        for (int depth = -1; depth <= x.count(0) + 1; depth++) {
            p.answers.put("may " + depth, x.may(depth));
            p.answers.put("winding " + depth, x.winding(depth));
        }
        for (int what = 0; what <= 1; what++) {
            p.answers.put("fewest " + what, x.fewest(what));
            p.answers.put("enough " + what, x.enough(what));
        }
        return p;
    }

    private void things(RopeTown x) {
        for (int thing = 0; thing < x.count(1); thing++) {
            for (int what = 0; what <= 5; what++) {
                answers.put("thing " + thing + " " + what, x.thing(thing, what));
            }
            answers.put("reach " + thing, x.reach(thing));
            for (int depth = 0; depth <= x.count(0); depth++) {
                answers.put("bars " + thing + " " + depth, x.bars(thing, depth));
            }
        }
    }

    private void buckets(RopeTown x) {
        for (int bucket = 0; bucket <= 1; bucket++) {
            for (int what = 0; what <= 4; what++) {
                answers.put("bucket " + bucket + " " + what, x.bucket(bucket, what));
            }
        }
    }

    private void row(RopeTown x) {
        for (int i = 0; i < x.count(9); i++) {
            for (int what = 0; what <= 2; what++) {
                answers.put("moved " + i + " " + what, x.moved(i, what));
            }
        }
        answers.put("back", x.back());
    }

    /** The answers that are not as they were, as "name was>is", with blanks between them. */
    String changesTo(Picture later) {
        StringBuilder text = new StringBuilder();
        Map<String, Integer> all = new LinkedHashMap<>(answers);
        all.putAll(later.answers);
        for (String name : all.keySet()) {
            Integer was = answers.get(name);
            Integer is = later.answers.get(name);
            if (was == null || !was.equals(is)) {
                text.append(text.length() > 0 ? ", " : "").append(name).append(" ").append(was).append(">").append(is);
            }
        }
        return text.toString();
    }

    private void drop(String name) {
        answers.remove(name);
    }

    /**
     * Makes an object twice, and does a call on one of them: it must answer as due, change the one STATUS alone (none,
     * if it is NONE), and leave behind it also what shows only later: what undo and the image bring back.
     */
    static void refused(String what, Supplier<RopeTown> make, ToIntFunction<RopeTown> call, int due, int status) {
        RopeTown x = make.get();
        Picture before = of(x);
        Check.same(what, due, answer(x, call));
        String change = "";
        if (status != RopeTown.NONE) {
            int was = before.answers.get("count " + (FIRST_STATUS + status));
            change = "count " + (FIRST_STATUS + status) + " " + was + ">" + (was + 1);
        }
        Check.sameText(what + " leaves all", change, before.changesTo(of(x)));
        sameLater(what, make.get(), x);
    }

    private static void sameLater(String what, RopeTown due, RopeTown got) {
        while (due.count(9) > 0) {
            Check.same(what + ": undo", due.undo(), got.undo());
            sameButStatus(what + ": undone", due, got);
        }
        Check.same(what + ": undo of none", due.undo(), got.undo());
        boolean isKept = due.restore();
        Check.same(what + ": restore", isKept ? 1 : 0, got.restore() ? 1 : 0);
        if (isKept) {
            Check.sameText(what + ": restored", "", of(due).changesTo(of(got)));
        } else {
            sameButStatus(what + ": not restored", due, got);
        }
    }

    private static void sameButStatus(String what, RopeTown due, RopeTown got) {
        Picture a = of(due);
        Picture b = of(got);
        for (int i = 0; i < 3; i++) {
            a.drop("count " + (FIRST_STATUS + i));
            b.drop("count " + (FIRST_STATUS + i));
        }
        Check.sameText(what, "", a.changesTo(b));
    }

    private static int answer(RopeTown x, ToIntFunction<RopeTown> call) {
        try {
            return call.applyAsInt(x);
        } catch (NoSuchElementException e) {
            return NO_SUCH;
        } catch (IllegalArgumentException e) {
            return ILLEGAL;
        }
    }
}
