/** What the tests of boundary cases share: a hall with an item of each kind, and a look at all of it. */
abstract class Boundaries {
    interface Call {
        void on(TypedHall hall);
    }

    /** A call with one number left open. */
    interface CallWith {
        void on(TypedHall hall, int number);
    }

    static final int MAX = Integer.MAX_VALUE;
    static final int MIN = Integer.MIN_VALUE;

    // What the registers of a furnished hall hold.
    static final int NONE = 0;
    /** 10, 11 and 0. */
    static final int INTS = 1;
    static final int WINDOW = 2;
    static final int GRID = 3;
    static final int RECORD = 4;
    static final int LINKED = 5;
    static final int ITEMS = 6;
    static final int LOST = 7;

    /** Of the grid's three rows this one has lost its storage. */
    static final int LOST_ROW = 2;

    final Sentences sentences;
    final Check check;

    Boundaries(Sentences sentences) {
        this.sentences = sentences;
        check = sentences.check;
    }

    abstract void run();

    /** A furnished hall refuses the call, and tells afterwards what it tells without it. */
    void leaves(Class<?> due, Call call) {
        TypedHall hall = furnished();
        check.refuses(due, () -> call.on(hall));
        check.sameLines(told(furnished()), told(hall));
    }

    void leavesEach(Class<?> due, CallWith call, int... numbers) {
        for (int number : numbers) {
            leaves(due, hall -> call.on(hall, number));
        }
    }

    static TypedHall furnished() {
        TypedHall hall = new TypedHall();
        hall.make(INTS, 4, 3);
        hall.put(INTS, 0, 10);
        hall.put(INTS, 1, 11);
        hall.window(WINDOW, INTS, 1);
        hall.grid(GRID, 3, 2);
        hall.setCell(GRID, 0, 0, 30, 1);
        hall.setCell(GRID, 1, 1, 31, 1);
        hall.lose(GRID, LOST_ROW);
        hall.record(RECORD);
        hall.exchange(RECORD, 40);
        hall.record(LINKED);
        hall.exchange(LINKED, 50);
        hall.link(RECORD, LINKED);
        hall.make(ITEMS, 8, 2);
        hall.refer(ITEMS, 0, RECORD);
        hall.make(LOST, 5, 2);
        hall.lose(LOST, 0);
        return hall;
    }

    /** What every register tells; the hall is spoilt by it, so it is for a last look. */
    private static String told(TypedHall hall) {
        StringBuilder told = new StringBuilder();
        for (int register = 0; register < 8; register++) {
            told.append("\nregister ").append(register).append(':');
            numbers(told, hall, register);
        }
        // Register 0 is free from here on.
        for (int index = 0; index < 2; index++) {
            int i = index;
            told.append("\nitem ").append(i).append(": ").append(Check.outcome(() -> hall.fetch(NONE, ITEMS, i)));
            told.append(", number ").append(Check.outcome(() -> hall.exchange(NONE, 100)));
        }
        for (int register = 1; register < 8; register++) {
            int r = register;
            told.append("\nlink: ").append(Check.outcome(() -> hall.follow(NONE, r) ? 1 : 0));
            told.append(", number ").append(Check.outcome(() -> hall.exchange(NONE, 200 + r)));
        }
        for (int register = 1; register < 7; register++) {
            int r = register;
            told.append("\nlike the next: ").append(Check.outcome(() -> hall.copy(r, r + 1) ? 1 : 0));
        }
        return told.append("\nmade: ").append(Check.outcome(() -> hall.record(NONE))).toString();
    }

    private static void numbers(StringBuilder told, TypedHall hall, int register) {
        told.append(" size ").append(Check.outcome(() -> hall.size(register)));
        told.append(" total ").append(Check.outcome(() -> hall.total(register)));
        for (int index = -1; index < 4; index++) {
            int i = index;
            told.append(' ').append(Check.outcome(() -> hall.take(register, i)));
        }
        for (int row = 0; row < 3; row++) {
            int r = row;
            told.append(' ').append(Check.outcome(() -> hall.cell(register, r, 0)));
            told.append(' ').append(Check.outcome(() -> hall.cell(register, r, 1)));
        }
    }
}
