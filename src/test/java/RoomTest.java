import java.lang.management.ManagementFactory;
import java.util.NoSuchElementException;
import java.util.Random;

/** Whatever is called, only what the document names is thrown, every call ends, and no call makes objects. */
public final class RoomTest {
    private static final int[] NUMBERS = {
        Integer.MIN_VALUE, Integer.MIN_VALUE + 1, -13, -2, -1, 0, 1, 2, 3, 4, 5, 6, 7, 8, 11, 12, 13, 15, 16, 17, 28,
        31, 32, 59, 60, 61, 127, 128, 600, 601, 1500, Integer.MAX_VALUE - 1, Integer.MAX_VALUE,
    };
    private static final String DEAR = "depth 4;start 1;needs 0;most 0;stone 8 at 2;person 10 at 2;person 6 at 2 to 0;"
        + "stone 10 at 2;person 10 at 2;water 9 at 2 to 4;person 9 at 2;rule not (loads = 1 and other = 0) or waters = 0;";

    public static void main(String[] args) {
        for (int seed = 0; seed < 300; seed++) {
            wildCalls(new Random(seed));
        }
        room();
        Check.end("RoomTest");
    }

    private static void wildCalls(Random random) {
        RopeTown x = new RopeTown();
        Check.tell(x, seven(random));
        for (int i = 0; i < 480; i++) {
            int call = random.nextInt(22);
            int a = number(random);
            int b = number(random);
            try {
                wild(x, call, a, b, random);
            } catch (NoSuchElementException e) {
                Check.same("call " + call + " throws NoSuchElement", 1, "3456789".indexOf('0' + call) >= 0 ? 1 : 0);
            } catch (IllegalArgumentException e) {
                Check.same("call " + call + " throws IllegalArgument", 2, call);
            } catch (RuntimeException e) {
                Check.same("call " + call + " of " + a + ", " + b + " throws " + e, 0, 1);
            }
        }
    }

    private static int number(Random random) {
        return random.nextInt(3) == 0 ? NUMBERS[random.nextInt(NUMBERS.length)] : random.nextInt(7);
    }

    private static String seven(Random random) {
        StringBuilder text = new StringBuilder("depth " + (1 + random.nextInt(11)) + ";needs 0;");
        for (int i = 0; i < 7; i++) {
            String kind = new String[] {"load", "person", "water"}[random.nextInt(3)];
            text.append(kind).append(" ").append(1 + random.nextInt(99)).append(" at 0 to 1;");
        }
        return text.append("rule weight / (other - depth) < loads * 9 or people = waters + stones;").toString();
    }

    private static void wild(RopeTown x, int call, int a, int b, Random random) {
        switch (call) {
            case 0: x.fault(); break;
            case 1: x.feed(a, b, random.nextInt(), random.nextInt(), random.nextInt()); break;
            case 2: x.town(random.nextInt(8) == 0 ? a : -1); break;
            case 3: x.count(a); break;
            case 4: x.thing(a, b); break;
            case 5: x.bucket(a, b); break;
            case 6: x.moved(a, b); break;
            case 7: x.fewest(a); break;
            case 8: if (random.nextBoolean()) { x.reach(a); } else { x.bars(a, b); } break;
            case 9: x.enough(a); break;
            case 10: case 11: x.load(a, b); break;
            case 12: x.unload(a); break;
            case 13: case 14: x.ride(a, b); break;
            case 15: x.winding(a); break;
            case 16: x.may(a); break;
            case 17: x.undo(); break;
            case 18: x.back(); break;
            case 19: x.day(a); break;
            case 20: x.image(); break;
            default: x.restore();
        }
    }

    /** The room is some 7.3 million elements for a whole run: a new object takes few, and calls take none. */
    private static void room() {
        com.sun.management.ThreadMXBean bean = (com.sun.management.ThreadMXBean) ManagementFactory.getThreadMXBean();
        long thread = Thread.currentThread().getId();
        RopeTown x = Check.town(DEAR);
        calls(x, 2);
        long before = bean.getThreadAllocatedBytes(thread);
        RopeTown y = new RopeTown();
        long made = bean.getThreadAllocatedBytes(thread) - before;
        Check.same("a new object takes " + made + " bytes", 1, made < 100_000 ? 1 : 0);
        Check.same("and is new", 0, y.count(13));
        before = bean.getThreadAllocatedBytes(thread);
        calls(x, 20);
        made = bean.getThreadAllocatedBytes(thread) - before;
        Check.same("calls make " + made + " bytes", 1, made < 20_000 ? 1 : 0);
    }

    private static void calls(RopeTown x, int rounds) {
        for (int i = 0; i < rounds; i++) {
            x.fewest(0);
            x.fewest(1);
            x.reach(i % 7);
            x.bars(i % 7, i % 5);
            x.day(4);
            x.enough(0);
            x.image();
            x.load(0, 0);
            x.ride(2, 2);
            x.undo();
            x.restore();
            x.feed(0, 0, 0, 0, 0);
            x.back();
            x.may(3);
        }
    }
}
