import java.util.Random;

/** Long mixed runs, 512 calls an object, answer by answer against the model. */
public final class ModelTest {
    private static final int RUNS = 3000;
    private static final int CALLS = 512;
    private static final int FACE = 20;
    private static final int MOST_TOLD = 20;

    private static final long[] EDGES = {0, 1, -1, 2, -2, 127, 128, -129, 32767, 32768, 65535, 65536,
        Integer.MAX_VALUE, Integer.MIN_VALUE, 1L << 31, 1L << 32, 16777217, 9007199254740993L,
        Long.MAX_VALUE, Long.MIN_VALUE};

    private final Random random;
    private final TypedHall hall = new TypedHall();
    private final Model model = new Model();

    private ModelTest(int seed) {
        random = new Random(seed);
    }

    public static void main(String[] args) {
        int wrong = 0;
        int[][] seen = new int[FACE][2];
        for (int run = 0; run < RUNS && wrong < MOST_TOLD; run++) {
            wrong += new ModelTest(run).differences(run, seen);
        }
        for (int which = 0; which < FACE; which++) {
            if (seen[which][0] == 0 || seen[which][1] == 0) {
                wrong++;
                System.out.println("call " + which + " was never answered, or never refused");
            }
        }
        System.out.println(RUNS * CALLS + " calls, " + wrong + " not as due");
        if (wrong != 0) {
            System.exit(1);
        }
    }

    private int differences(int run, int[][] seen) {
        for (int number = 1; number <= CALLS; number++) {
            int which = random.nextInt(FACE);
            int[] a = arguments(which);
            long value = anyLong();
            String due = Check.outcome(() -> onModel(which, a, value));
            String got = Check.outcome(() -> onHall(which, a, value));
            seen[which][due.startsWith("java.") ? 1 : 0]++;
            if (!due.equals(got)) {
                System.out.println("run " + run + ", call " + number + ", method " + which + " with "
                    + java.util.Arrays.toString(a) + ", " + value + ": due is " + due + ", got " + got);
                return 1;
            }
        }
        return 0;
    }

    private int[] arguments(int which) {
        switch (which) {
            case 0:
                return new int[] {register(), near(0, 8), near(0, 24)};
            case 1:
                return new int[] {register(), near(0, 6), near(0, 4)};
            case 3:
                return new int[] {register(), register(), offset()};
            case 4:
                return new int[] {register(), random.nextInt(6) == 0 ? -1 : register()};
            case 5:
                // Most calls are to find storage: few are to lose it.
                return new int[] {random.nextInt(3) == 0 ? register() : 7, near(0, 5)};
            case 6:
                return new int[] {register(), near(0, 24)};
            case 10:
                return new int[] {register(), near(0, 5), near(0, 3)};
            case 11:
                return new int[] {register(), near(0, 5), near(0, 3), (int) anyLong(),
                    random.nextInt(4) == 0 ? 0 : (int) anyLong()};
            case 12:
                return new int[] {register(), index(), register()};
            case 8:
            case 9:
                return new int[] {register(), index()};
            case 18:
                return new int[] {near(0, 4), register(), index(), register(), index()};
            case 19:
                return new int[] {register(), index(), register(), index(), near(0, random.nextInt(25))};
            default:
                return new int[] {register(), register(), index()};
        }
    }

    private int register() {
        return near(0, 7);
    }

    /** Mostly in the range, at times just out of it, seldom far away. */
    private int near(int least, int most) {
        int kind = random.nextInt(60);
        if (kind == 0) {
            return random.nextInt();
        }
        if (kind == 1) {
            return least - 1;
        }
        return kind == 2 ? most + 1 : least + random.nextInt(most - least + 1);
    }

    private int index() {
        return random.nextInt(3) == 0 ? offset() : near(0, 8);
    }

    private int offset() {
        int kind = random.nextInt(10);
        if (kind == 0) {
            return Integer.MIN_VALUE + random.nextInt(4);
        }
        return kind == 1 ? Integer.MAX_VALUE - random.nextInt(4) : random.nextInt(9) - 4;
    }

    private long anyLong() {
        int kind = random.nextInt(3);
        if (kind == 0) {
            return EDGES[random.nextInt(EDGES.length)];
        }
        return random.nextLong() >> random.nextInt(64);
    }

    private long onHall(int which, int[] a, long value) {
        switch (which) {
            case 0: return hall.make(a[0], a[1], a[2]);
            case 1: return hall.grid(a[0], a[1], a[2]);
            case 2: return hall.record(a[0]);
            case 3: return hall.window(a[0], a[1], a[2]);
            case 4: return hall.copy(a[0], a[1]) ? 1 : 0;
            case 5: return hall.lose(a[0], a[1]);
            case 6: return hall.resize(a[0], a[1]);
            case 7: return hall.size(a[0]);
            case 8: return hall.take(a[0], a[1]);
            case 9: return hall.put(a[0], a[1], value);
            case 10: return hall.cell(a[0], a[1], a[2]);
            case 11: hall.setCell(a[0], a[1], a[2], a[3], a[4]); return 0;
            case 12: hall.refer(a[0], a[1], a[2]); return 0;
            case 13: return hall.fetch(a[0], a[1], a[2]);
            case 14: hall.link(a[0], a[1]); return 0;
            case 15: return hall.follow(a[0], a[1]) ? 1 : 0;
            case 16: return hall.exchange(a[0], value);
            case 17: return hall.total(a[0]);
            case 18: return hall.combine(a[0], a[1], a[2], a[3], a[4]);
            default: return hall.move(a[0], a[1], a[2], a[3], a[4]);
        }
    }

    private long onModel(int which, int[] a, long value) {
        switch (which) {
            case 0: return model.make(a[0], a[1], a[2]);
            case 1: return model.grid(a[0], a[1], a[2]);
            case 2: return model.record(a[0]);
            case 3: return model.window(a[0], a[1], a[2]);
            case 4: return model.copy(a[0], a[1]) ? 1 : 0;
            case 5: return model.lose(a[0], a[1]);
            case 6: return model.resize(a[0], a[1]);
            case 7: return model.size(a[0]);
            case 8: return model.take(a[0], a[1]);
            case 9: return model.put(a[0], a[1], value);
            case 10: return model.cell(a[0], a[1], a[2]);
            case 11: model.setCell(a[0], a[1], a[2], a[3], a[4]); return 0;
            case 12: model.refer(a[0], a[1], a[2]); return 0;
            case 13: return model.fetch(a[0], a[1], a[2]);
            case 14: model.link(a[0], a[1]); return 0;
            case 15: return model.follow(a[0], a[1]) ? 1 : 0;
            case 16: return model.exchange(a[0], value);
            case 17: return model.total(a[0]);
            case 18: return model.combine(a[0], a[1], a[2], a[3], a[4]);
            default: return model.move(a[0], a[1], a[2], a[3], a[4]);
        }
    }
}
