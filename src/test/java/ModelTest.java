import java.util.NoSuchElementException;
import java.util.Random;
import java.util.function.IntSupplier;

/** Random runs of calls, of which RopeTown must answer each one as the slow model does. */
public final class ModelTest {
    private static final int THROWS_NO_SUCH = 1_000_001;
    private static final int THROWS_ILLEGAL = 1_000_002;
    private static final String[] SCRAPS = {
        "depth", "start", "cap", "rope", "needs", "most", "brake", "load", "person", "stone", "water", "at", "to",
        "rule", "or", "and", "not", "loads", "people", "stones", "waters", "weight", "other", "x", "loadss", ";",
        "(", ")", "+", "-", "*", "/", "<", "=", "0", "1", "2", "11", "12", "99", "100", "999", "1000", "10000",
        "00001", ">", "A", "\t", "\u00e9", " ", "\n", "not not not not not not", "((((((",
    };

    private final Random random;
    private final StringBuilder log = new StringBuilder();
    private RopeTown x;
    private Model model;
    private int spent = 0;
    private int answered = 0;

    private ModelTest(long seed) {
        random = new Random(seed);
    }

    public static void main(String[] args) {
        int runs = args.length > 0 ? Integer.parseInt(args[0]) : 1500;
        long first = args.length > 1 ? Long.parseLong(args[1]) : 1;
        int spent = 0;
        int answered = 0;
        for (int run = 0; run < runs; run++) {
            ModelTest test = new ModelTest(first + run);
            test.run(first + run);
            spent += test.spent;
            answered += test.answered;
        }
        for (int run = 0; run < runs / 5; run++) {
            new ModelTest(first + run).windLongWays(first + run);
        }
        for (int run = 0; run < runs / 5; run++) {
            new ModelTest(first + run).fillTheRow(first + run);
        }
        System.out.println("searches: " + answered + " answered, " + spent + " spent");
        Check.end("ModelTest");
    }

    private void run(long seed) {
        x = new RopeTown();
        model = new Model();
        boolean towns = random.nextInt(3) > 0;
        for (int i = 0; i < 3; i++) {
            tell(towns || random.nextInt(4) == 0 ? randomTown() : scrapText());
            int calls = towns ? 60 : 4;
            for (int c = 0; c < calls; c++) {
                step();
            }
        }
        if (log.length() > 0) {
            System.out.println("seed " + seed + log);
        }
    }

    /** Deep shafts with few things, where the cheapest way by hand is often not the first one found. */
    private void windLongWays(long seed) {
        x = new RopeTown();
        model = new Model();
        int depth = 3 + random.nextInt(9);
        StringBuilder text = new StringBuilder("depth " + depth + ";");
        clause(text, "start", depth + 1, 2);
        clause(text, "rope", 3, 2);
        clause(text, "needs", 9, 2);
        clause(text, "most", 9, 1);
        clause(text, "brake", 5, 3);
        for (int i = depth < 4 ? 3 : depth < 10 ? 2 : 1; i > 0; i--) {
            String kind = new String[] {"load", "person", "water"}[random.nextInt(3)];
            text.append(kind).append(" ").append(1 + random.nextInt(30)).append(" at ");
            text.append(random.nextInt(depth + 1)).append(" to ").append(random.nextInt(depth + 1)).append(";");
        }
        if (random.nextInt(3) == 0) {
            text.append("rule ").append(randomRule()).append(";");
        }
        tell(text.toString());
        same("fewest 1", () -> x.fewest(1), () -> model.fewest(1));
        same("reach 0", () -> x.reach(0), () -> model.reach(0));
        if (log.length() > 0) {
            System.out.println("long ways of seed " + seed + log);
        }
    }

    /** Many MOVES, until THE ROW and the DAYS are full, and back again by undo and by the image. */
    private void fillTheRow(long seed) {
        x = new RopeTown();
        model = new Model();
        tell(randomTown());
        for (int i = 0; i < 250; i++) {
            int t = random.nextInt(x.count(1) + 1);
            int d = random.nextInt(x.count(0) + 1);
            int b = random.nextInt(2);
            int how = random.nextInt(4) == 0 ? random.nextInt(2) : 2;
            switch (random.nextInt(12)) {
                case 0: case 1: case 2: same("load " + t + " " + b, () -> x.load(t, b), () -> model.load(t, b)); break;
                case 3: case 4: same("unload " + t, () -> x.unload(t), () -> model.unload(t)); break;
                case 5: case 6: case 7: same("ride " + d, () -> x.ride(d, how), () -> model.ride(d, how)); break;
                case 8: same("back", x::back, model::back); break;
                case 9: same("may " + d, () -> x.may(d), () -> model.may(d)); break;
                case 10: day(); break;
                default: takeBack();
            }
        }
        all();
        if (log.length() > 0) {
            System.out.println("full row of seed " + seed + log);
        }
    }

    private void takeBack() {
        int much = random.nextInt(12) == 0 ? 61 : random.nextInt(4) - 1;
        for (int i = 0; i < much; i++) {
            same("undo", x::undo, model::undo);
        }
        if (much < 1) {
            image();
        }
        all();
        row();
    }

    private void row() {
        for (int i = -1; i <= x.count(9); i++) {
            int at = i;
            for (int what = 0; what <= 2; what++) {
                int w = what;
                same("moved " + i + " " + w, () -> x.moved(at, w), () -> model.moved(at, w));
            }
        }
    }

    private void tell(String text) {
        for (int from = 0; from < text.length(); from += 20) {
            int[] five = new int[5];
            for (int i = 0; i < 20; i++) {
                int b = from + i < text.length() ? text.charAt(from + i) : ' ';
                five[i / 4] = five[i / 4] << 8 | b & 255;
            }
            same("feed", () -> x.feed(five[0], five[1], five[2], five[3], five[4]), () -> model.feed(five));
        }
        int n = random.nextInt(30) == 0 ? random.nextInt(700) - 20 : text.length();
        same("town(" + n + ") \"" + text + "\"", () -> x.town(n), () -> model.town(n));
        same("fault", x::fault, model::fault);
        for (int what = 0; what <= 16; what++) {
            int w = what;
            same("count " + w, () -> x.count(w), () -> model.count(w));
        }
    }

    private String scrapText() {
        StringBuilder text = new StringBuilder(random.nextBoolean() ? randomTown() : "");
        for (int i = random.nextInt(12); i > 0; i--) {
            String scrap = SCRAPS[random.nextInt(SCRAPS.length)];
            String glued = random.nextInt(4) == 0 ? scrap : " " + scrap + " ";
            int at = random.nextInt(text.length() + 1);
            if (random.nextInt(3) == 0) {
                text.replace(at, Math.min(text.length(), at + random.nextInt(8)), glued);
            } else {
                text.insert(at, glued);
            }
        }
        return text.length() > 600 ? text.substring(0, 600) : text.toString();
    }

    private String randomTown() {
        StringBuilder text = new StringBuilder();
        int depth = 1;
        if (random.nextInt(4) > 0) {
            depth = 1 + random.nextInt(random.nextInt(4) == 0 ? 11 : 4);
            text.append("depth ").append(depth).append(";");
        }
        clause(text, "start", depth + 1, 3);
        clause(text, "rope", 4, 3);
        clause(text, "needs", 4, 2);
        clause(text, "most", 25, 2);
        clause(text, "brake", 12, 2);
        if (random.nextInt(3) == 0) {
            text.append("cap ").append(5 + random.nextInt(30)).append(";");
        }
        for (int i = random.nextInt(random.nextInt(5) == 0 ? 8 : 5); i > 0; i--) {
            String kind = new String[] {"load", "person", "stone", "water", "stone"}[random.nextInt(5)];
            text.append(kind).append(" ").append(1 + random.nextInt(12));
            text.append(" at ").append(random.nextInt(depth + 1));
            if (!kind.equals("stone") && random.nextInt(5) > 0) {
                text.append(" to ").append(random.nextInt(depth + 1));
            }
            text.append(";\n");
        }
        for (int i = random.nextInt(2) == 0 ? random.nextInt(5) : 0; i > 0; i--) {
            text.append("rule ").append(random.nextBoolean() ? randomRule() : expr(3)).append(";");
        }
        return text.length() > 600 ? "" : text.toString();
    }

    private void clause(StringBuilder text, String name, int bound, int oneOf) {
        if (random.nextInt(oneOf) == 0) {
            text.append(name).append(" ").append(random.nextInt(bound)).append(";");
        }
    }

    private String randomRule() {
        String[] rules = {"not (people = 1 and loads = 1)", "people + waters < 2", "weight < 15 or stones = 0",
            "depth < 2 or weight < 20", "not other = 0 or not weight = 0 or 1", "weight - other < 9",
            "stones * 2 / 2 < 3 - people", "not not loads < 2"};
        return rules[random.nextInt(rules.length)];
    }

    private String expr(int deep) {
        if (deep == 0 || random.nextInt(4) == 0) {
            String[] parts = {"loads", "people", "stones", "waters", "weight", "depth", "other", "0", "1", "2", "9999"};
            return parts[random.nextInt(parts.length)];
        }
        String[] ops = {" or ", " and ", " < ", " = ", "+", "-", "*", "/"};
        switch (random.nextInt(5)) {
            case 0: return "not " + expr(deep - 1);
            case 1: return "(" + expr(deep - 1) + ")";
            default: return expr(deep - 1) + ops[random.nextInt(ops.length)] + expr(deep - 1);
        }
    }

    private void step() {
        int t = random.nextInt(8) == 0 ? random.nextInt(9) - 1 : random.nextInt(x.count(1) + 1);
        int d = random.nextInt(8) == 0 ? random.nextInt(14) - 1 : random.nextInt(x.count(0) + 1);
        int b = random.nextInt(12) == 0 ? random.nextInt(4) - 1 : random.nextInt(2);
        int how = random.nextInt(12) == 0 ? random.nextInt(5) - 1 : random.nextInt(3);
        int what = random.nextInt(8) - 1;
        switch (random.nextInt(26)) {
            case 0: case 1: case 2: case 3: case 4:
                same("load " + t + " " + b, () -> x.load(t, b), () -> model.load(t, b));
                break;
            case 5: case 6:
                same("unload " + t, () -> x.unload(t), () -> model.unload(t));
                break;
            case 7: case 8: case 9: case 10: case 11:
                same("ride " + d + " " + how, () -> x.ride(d, how), () -> model.ride(d, how));
                break;
            case 12: same("thing " + t + " " + what, () -> x.thing(t, what), () -> model.thing(t, what)); break;
            case 13: same("bucket " + b + " " + what, () -> x.bucket(b, what), () -> model.bucket(b, what)); break;
            case 14: same("winding " + d, () -> x.winding(d), () -> model.winding(d)); break;
            case 15: same("may " + d, () -> x.may(d), () -> model.may(d)); break;
            case 16: same("undo", x::undo, model::undo); break;
            case 17: same("moved " + t + " " + what, () -> x.moved(t, what), () -> model.moved(t, what)); break;
            case 18: same("back", x::back, model::back); break;
            case 19: day(); break;
            case 20: same("count " + (t + how * 5), () -> x.count(t + how * 5), () -> model.count(t + how * 5)); break;
            case 21: image(); break;
            default: search(t, d, b);
        }
    }

    private void search(int t, int d, int what) {
        switch (random.nextInt(8)) {
            case 0: case 1: searched("fewest " + what, () -> x.fewest(what), () -> model.fewest(what)); break;
            case 2: case 3: searched("reach " + t, () -> x.reach(t), () -> model.reach(t)); break;
            case 4: searched("bars " + t + " " + d, () -> x.bars(t, d), () -> model.bars(t, d)); break;
            case 5: searched("enough " + what, () -> x.enough(what), () -> model.enough(what)); break;
            default: all();
        }
    }

    private void day() {
        int aims = 0;
        for (int t = 0; t < x.count(1); t++) {
            aims |= x.thing(t, 2) >= 0 ? 1 << t : 0;
        }
        int mixed = random.nextInt(6) == 0 ? random.nextInt() : aims;
        int day = mixed & random.nextInt();
        same("day " + day, () -> x.day(day), () -> model.day(day));
    }

    private void image() {
        if (random.nextBoolean()) {
            x.image();
            model.image();
        } else {
            same("restore", () -> x.restore() ? 1 : 0, () -> model.restore() ? 1 : 0);
        }
    }

    /** The whole state of both. */
    private void all() {
        for (int what = 0; what <= 16; what++) {
            int w = what;
            same("count " + w, () -> x.count(w), () -> model.count(w));
        }
        for (int t = 0; t < x.count(1); t++) {
            for (int what = 0; what <= 5; what++) {
                int tt = t;
                int w = what;
                same("thing " + t + " " + w, () -> x.thing(tt, w), () -> model.thing(tt, w));
            }
        }
        for (int i = 0; i < 10; i++) {
            int b = i / 5;
            int w = i % 5;
            same("bucket " + b + " " + w, () -> x.bucket(b, w), () -> model.bucket(b, w));
        }
    }

    private void searched(String what, IntSupplier mine, IntSupplier due) {
        int answer = same(what, mine, due);
        spent += answer == -2 ? 1 : 0;
        answered += answer == -2 ? 0 : 1;
    }

    private int same(String what, IntSupplier mine, IntSupplier due) {
        int want = answer(due);
        int got = answer(mine);
        if (want != got) {
            log.append(" [").append(what).append("]");
        }
        Check.same(what, want, got);
        return want;
    }

    private static int answer(IntSupplier call) {
        try {
            return call.getAsInt();
        } catch (NoSuchElementException e) {
            return THROWS_NO_SUCH;
        } catch (IllegalArgumentException e) {
            return THROWS_ILLEGAL;
        }
    }
}
