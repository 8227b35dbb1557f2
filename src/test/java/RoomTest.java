import java.lang.management.ManagementFactory;
import java.util.Random;

/** Any arguments in any state: no call throws, none fails to end, and 512 calls stay far inside of the room. */
public final class RoomTest {
    private static final int CALLS = 512;
    /** Some 7.3 million elements are there for all; a tenth of it, at four bytes each. */
    private static final long MOST_BYTES = 2_900_000;

    private static final int[] EDGES = {Integer.MIN_VALUE, Integer.MIN_VALUE + 1, -2, -1, 0, 1, 2, 3, 5, 7, 8, 9, 10,
        11, 12, 16, 23, 24, 31, 32, 50, 51, 60, 61, 255, 256, 299, 300, 301, 511, 512, 999, 1000, Integer.MAX_VALUE - 1,
        Integer.MAX_VALUE};
    private static final String[] TEXTS = {"row A=531;row B=3*9 3*9 3*6;row C=[43]1;row D=[99]*9;seen ???????;",
        "row A=<3p1|3p0>*9;row B=<[99]|[99p0]>*9;seen 5?1;", "row A=<[99]|[99]|[99]>*9;row C=<1p1|1p2|1p0>;seen ?;"};

    private final Check check;
    private final Random random;

    private RoomTest(Check check, long seed) {
        this.check = check;
        this.random = new Random(seed);
    }

    public static void main(String[] args) {
        Check check = new Check("RoomTest");
        for (int seed = 0; seed < 300; seed++) {
            new RoomTest(check, seed).run(seed % 3);
        }
        check.finish();
    }

    private void run(int kind) {
        int jugglers = kind + 1;
        long before = allocated();
        JugglingHall hall = new JugglingHall(jugglers);
        for (int call = 0; call < CALLS; call++) {
            if (call % 40 == 0) {
                Check.tell(hall, TEXTS[kind]);
            } else {
                answer(hall, random.nextInt(24));
            }
        }
        check.same("bytes of a run", allocated() - before < MOST_BYTES, true);
        check.same("jugglers", hall.about(0), jugglers);
    }

    private static long allocated() {
        com.sun.management.ThreadMXBean bean = (com.sun.management.ThreadMXBean) ManagementFactory.getThreadMXBean();
        return bean.getCurrentThreadAllocatedBytes();
    }

    private int edge() {
        return random.nextInt(3) == 0 ? EDGES[random.nextInt(EDGES.length)] : random.nextInt(5) - 1;
    }

    private int answer(JugglingHall hall, int method) {
        return switch (method) {
            case 0 -> hall.feed(random.nextInt(), edge(), 0x726f7720, 0x413d333b, random.nextInt());
            case 1 -> hall.end(edge());
            case 2 -> hall.text();
            case 3 -> hall.fault(edge());
            case 4 -> hall.look(edge()) ? 1 : 0;
            case 5 -> hall.beats(edge());
            case 6 -> hall.thrown(edge(), edge(), edge(), edge(), edge());
            case 7 -> hall.good(edge(), edge());
            case 8 -> hall.cycles(edge());
            case 9 -> hall.cycle(edge(), edge(), edge());
            case 10 -> hall.cycleOf(edge(), edge(), edge(), edge());
            case 11 -> hall.caught(edge(), edge(), edge(), edge(), edge());
            case 12 -> hall.state(edge(), edge());
            case 13 -> hall.way(edge(), edge(), edge());
            case 14 -> hall.loops(edge(), edge(), edge());
            case 15 -> hall.clear();
            case 16 -> hall.add(edge(), edge());
            case 17 -> hall.score(edge(), edge());
            case 18 -> hall.seen(edge());
            case 19 -> hall.whole(edge(), edge());
            case 20 -> hall.drop(edge(), edge(), edge());
            case 21 -> hall.turned(edge(), edge());
            default -> hall.about(edge());
        };
    }
}
