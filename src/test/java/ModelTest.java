import java.lang.reflect.Method;
import java.util.Map;
import java.util.Random;
import java.util.TreeMap;

/**
 * Long mixed runs, 512 calls an object, answer by answer against the model. Each call must have been answered,
 * and refused in each way that its face names, many times.
 */
public final class ModelTest {
    private static final int RUNS = 3000;
    private static final int CALLS = 512;
    private static final int MOST_TOLD = 20;
    private static final int LEAST_SEEN = 100;
    private static final String[] FACE = {"make", "grid", "record", "window", "copy", "lose", "resize", "size",
        "take", "put", "cell", "setCell", "refer", "fetch", "link", "follow", "exchange", "total", "combine", "move"};

    // Runs that do few things mostly come to states that an even mixture does not: a tower of windows, a long chain.
    private static final int FAVOURITES = 4;

    private static final long[] EDGES = {0, 1, -1, 2, -2, 127, 128, -129, 32767, 32768, 65535, 65536,
        Integer.MAX_VALUE, Integer.MIN_VALUE, 1L << 31, 1L << 32, 16777217, 9007199254740993L,
        Long.MAX_VALUE, Long.MIN_VALUE};

    // Rule 7 of the language: nothing is refused but where it is looked at first. Only the first runs
    // are asked for it, as the machine leaves out the places of refusals that it has seen often.
    private static final int RUNS_WITH_PLACES = 50;
    private static final Map<Class<?>, String> PLACES = Map.of(
        Check.ARGUMENT, "requireArgument", Check.STATE, "window", Check.UNSUPPORTED, "requireSupported",
        Check.ABSENT, "requirePresent", Check.OUTSIDE, "requireIndex", Check.NEGATIVE, "requireSize",
        Check.DIVISION, "requireDivisor");

    private static final Map<String, Integer> seen = new TreeMap<>();
    private static final Map<String, Integer> placesSeen = new TreeMap<>();
    private static int wrong = 0;

    private final Random random;
    private final int run;
    private final String[] favourites = new String[FAVOURITES];
    private final TypedHall hall = new TypedHall();
    private final Model model = new Model();

    private ModelTest(int run) {
        this.run = run;
        random = new Random(run);
        for (int i = 0; i < FAVOURITES; i++) {
            favourites[i] = anyCall();
        }
    }

    public static void main(String[] args) {
        for (int run = 0; run < RUNS && wrong < MOST_TOLD; run++) {
            new ModelTest(run).compare();
        }
        for (Method method : TypedHall.class.getDeclaredMethods()) {
            seenEnough(method);
        }
        for (String place : PLACES.values()) {
            wrongUnless(placesSeen.containsKey(place), "no refusal came from " + place);
        }
        System.out.println(RUNS * CALLS + " calls, " + wrong + " not as due");
        if (wrong != 0) {
            System.exit(1);
        }
    }

    private static void wrongUnless(boolean asDue, String otherwise) {
        if (!asDue) {
            wrong++;
            System.out.println(otherwise);
        }
    }

    private static void seenEnough(Method method) {
        if (java.lang.reflect.Modifier.isPublic(method.getModifiers())) {
            seenEnough(method.getName(), "answered");
            for (Class<?> refusal : method.getExceptionTypes()) {
                seenEnough(method.getName(), refusal.getName());
            }
        }
    }

    private static void seenEnough(String name, String outcome) {
        int times = seen.getOrDefault(name + " " + outcome, 0);
        wrongUnless(times >= LEAST_SEEN, name + " " + outcome + ": seen only " + times + " times");
    }

    /** A run ends with its first difference: what comes after it tells nothing. */
    private void compare() {
        int wrongBefore = wrong;
        for (int number = 1; number <= CALLS && wrong == wrongBefore; number++) {
            String call = random.nextInt(3) == 0 ? anyCall() : favourites[random.nextInt(FAVOURITES)];
            int[] a = arguments(call);
            long value = anyLong();
            String due = Check.outcome(() -> onModel(call, a, value));
            String got = Check.outcome(() -> onHallInPlace(call, a, value));
            seen.merge(call + " " + (due.startsWith("java.") ? due : "answered"), 1, Integer::sum);
            wrongUnless(due.equals(got), "run " + run + ", call " + number + ", " + call + " with "
                + java.util.Arrays.toString(a) + ", " + value + ": due is " + due + ", got " + got);
        }
    }

    private long onHallInPlace(String call, int[] a, long value) {
        try {
            return onHall(call, a, value);
        } catch (RuntimeException e) {
            if (run < RUNS_WITH_PLACES && e.getStackTrace().length > 0) {
                String place = e.getStackTrace()[0].getMethodName();
                placesSeen.merge(place, 1, Integer::sum);
                wrongUnless(place.equals(PLACES.get(e.getClass())), e.getClass().getName() + " comes from " + place);
            }
            throw e;
        }
    }

    private int[] arguments(String call) {
        int register;
        int other;
        switch (call) {
            case "make":
                return new int[] {register(), near(0, 8), near(0, 24)};
            case "grid":
                return new int[] {register(), near(0, 6), near(0, 4)};
            case "window":
                register = holding(0, 8);
                return new int[] {random.nextBoolean() ? register : register(), register, offset()};
            case "copy":
                return new int[] {register(), random.nextInt(6) == 0 ? -1 : register()};
            case "lose":
                // Most calls are to find storage: few are to lose it.
                return new int[] {random.nextInt(3) == 0 ? holding(0, 9) : 7, near(0, 5)};
            case "resize":
                return new int[] {holding(0, 8), near(0, 24)};
            case "size":
                return new int[] {holding(0, 9)};
            case "take":
            case "put":
                register = holding(0, 7);
                return new int[] {register, index(register)};
            case "cell":
                return new int[] {holding(9, 9), near(0, 5), near(0, 3)};
            case "setCell":
                return new int[] {holding(9, 9), near(0, 5), near(0, 3), (int) anyLong(),
                    random.nextInt(4) == 0 ? 0 : (int) anyLong()};
            case "refer":
                register = holding(8, 8);
                return new int[] {register, index(register), register()};
            case "fetch":
                register = holding(8, 8);
                return new int[] {register(), register, index(register)};
            case "link":
                return new int[] {holding(10, 10), random.nextInt(4) == 0 ? register() : holding(10, 10)};
            case "follow":
                return new int[] {register(), holding(10, 10)};
            case "exchange":
            case "total":
                return new int[] {holding(10, 10)};
            case "combine":
                register = holding(0, 5);
                other = holding(0, 5);
                return new int[] {near(0, 4), register, index(register), other, index(other)};
            case "move":
                register = holding(0, 7);
                other = holding(0, 7);
                return new int[] {register, index(register), other, index(other), near(0, random.nextInt(25))};
            default:
                return new int[] {register()};
        }
    }

    private String anyCall() {
        return FACE[random.nextInt(FACE.length)];
    }

    private int register() {
        return near(0, 7);
    }

    /** Mostly a register that holds an item of these sorts, if one is found soon. */
    private int holding(int leastSort, int mostSort) {
        int register = register();
        for (int tries = random.nextInt(12); tries > 0 && !holds(register, leastSort, mostSort); tries--) {
            register = register();
        }
        return register;
    }

    private boolean holds(int register, int leastSort, int mostSort) {
        return register >= 0 && register < 8
            && model.sortIn(register) >= leastSort && model.sortIn(register) <= mostSort;
    }

    /** Mostly in the range, at times just out of it, seldom far away. */
    private int near(int least, int most) {
        int kind = random.nextInt(60);
        if (kind == 0) {
            return random.nextInt();
        }
        if (kind == 1) {
            return least - 1;
        }
        return kind == 2 ? most + 1 : least + random.nextInt(most - least + 1);
    }

    /** Mostly near the first element, however far windows have moved it. */
    private int index(int register) {
        if (random.nextInt(4) == 0) {
            return offset();
        }
        return near(0, 8) + (holds(register, 0, 8) ? model.firstIndexIn(register) : 0);
    }

    private int offset() {
        int kind = random.nextInt(10);
        if (kind == 0) {
            return Integer.MIN_VALUE + random.nextInt(4);
        }
        return kind == 1 ? Integer.MAX_VALUE - random.nextInt(4) : random.nextInt(9) - 4;
    }

    private long anyLong() {
        int kind = random.nextInt(3);
        if (kind == 0) {
            return EDGES[random.nextInt(EDGES.length)];
        }
        return random.nextLong() >> random.nextInt(64);
    }

    private long onHall(String call, int[] a, long value) {
        switch (call) {
            case "make": return hall.make(a[0], a[1], a[2]);
            case "grid": return hall.grid(a[0], a[1], a[2]);
            case "record": return hall.record(a[0]);
            case "window": return hall.window(a[0], a[1], a[2]);
            case "copy": return hall.copy(a[0], a[1]) ? 1 : 0;
            case "lose": return hall.lose(a[0], a[1]);
            case "resize": return hall.resize(a[0], a[1]);
            case "size": return hall.size(a[0]);
            case "take": return hall.take(a[0], a[1]);
            case "put": return hall.put(a[0], a[1], value);
            case "cell": return hall.cell(a[0], a[1], a[2]);
            case "setCell": hall.setCell(a[0], a[1], a[2], a[3], a[4]); return 0;
            case "refer": hall.refer(a[0], a[1], a[2]); return 0;
            case "fetch": return hall.fetch(a[0], a[1], a[2]);
            case "link": hall.link(a[0], a[1]); return 0;
            case "follow": return hall.follow(a[0], a[1]) ? 1 : 0;
            case "exchange": return hall.exchange(a[0], value);
            case "total": return hall.total(a[0]);
            case "combine": return hall.combine(a[0], a[1], a[2], a[3], a[4]);
            default: return hall.move(a[0], a[1], a[2], a[3], a[4]);
        }
    }

    private long onModel(String call, int[] a, long value) {
        switch (call) {
            case "make": return model.make(a[0], a[1], a[2]);
            case "grid": return model.grid(a[0], a[1], a[2]);
            case "record": return model.record(a[0]);
            case "window": return model.window(a[0], a[1], a[2]);
            case "copy": return model.copy(a[0], a[1]) ? 1 : 0;
            case "lose": return model.lose(a[0], a[1]);
            case "resize": return model.resize(a[0], a[1]);
            case "size": return model.size(a[0]);
            case "take": return model.take(a[0], a[1]);
            case "put": return model.put(a[0], a[1], value);
            case "cell": return model.cell(a[0], a[1], a[2]);
            case "setCell": model.setCell(a[0], a[1], a[2], a[3], a[4]); return 0;
            case "refer": model.refer(a[0], a[1], a[2]); return 0;
            case "fetch": return model.fetch(a[0], a[1], a[2]);
            case "link": model.link(a[0], a[1]); return 0;
            case "follow": return model.follow(a[0], a[1]) ? 1 : 0;
            case "exchange": return model.exchange(a[0], value);
            case "total": return model.total(a[0]);
            case "combine": return model.combine(a[0], a[1], a[2], a[3], a[4]);
            default: return model.move(a[0], a[1], a[2], a[3], a[4]);
        }
    }
}
