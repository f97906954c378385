/** The bounds of a hall and its terms: ranges, how a long is put and taken again, what is thrown first. */
final class TermsBoundaries extends Boundaries {
    private static final int CALLS = 512;

    TermsBoundaries(Sentences sentences) {
        super(sentences);
    }

    @Override
    void run() {
        sentences.whatItIs("A hall of typed stores for a small machine: vectors of nine sorts, windows on them,"
            + " grids and records, held by registers; what the machine refuses by itself (there is no store, or no"
            + " storage, an index outside, a division by zero, a negative size) are answers.", this::refusalsAreAnswers);
        sentences.whatItIs("An object is used for at most 512 calls after it has been made; what later calls answer"
            + " is free.", this::lastCallsAnswer);
        sentences.terms("REGISTERS 0 .. 7 hold an ITEM each, or NONE (at first); several may hold the same item.",
            this::registers);
        sentences.terms("A VECTOR of a SORT 0 .. 8 has a STORAGE of ELEMENTS, numbered from 0: 0 or 1 (sort 0),"
            + " -128 .. 127 (1), -32768 .. 32767 (2), 0 .. 65535 (3), ints (4), longs (5), floats (6), doubles (7),"
            + " items or NONE (8).", this::elements);
        sentences.terms("A WINDOW has a BASE, a vector or a window, and an OFFSET, an int: its element i is the base's"
            + " element offset + i (wrapping).", this::windows);
        sentences.terms("A GRID has ROWS, numbered from 0, each a storage of as many ints (COLUMNS from 0).",
            this::grids);
        sentences.terms("A RECORD has a NUMBER, a long, and a LINK, a record or NONE.", this::records);
        sentences.terms("In a new one all is 0, or NONE.", this::newItems);
        sentences.terms("A vector or a row may have LOST its storage.", this::lostStorage);
        sentences.terms("To PUT a long into an element: sort 0: 1 if it is not 0, else 0;", this::putBit);
        sentences.terms("sorts 1 .. 4: its lowest 8, 16, 16, 32 bits, with a sign but for sort 3;", this::putLowestBits);
        sentences.terms("6, 7: rounded to the nearest float or double (to the even one of two), as Java's cast does.",
            this::putRounded);
        sentences.terms("To TAKE an element: a long; of sorts 6 and 7 rounded toward 0 (the nearest long for what is"
            + " beyond).", this::takeBeyond);
        sentences.terms("Its SORT is that of the vector on which windows stand at last; a grid has sort 9, a record 10.",
            this::sorts);
        sentences.terms("What is thrown: IllegalArgumentException: a register, or another number told to be in a range,"
            + " is out of it; then as told, in the order of testing.", this::rangesFirst);
        sentences.terms("To take or put an element, or look at storage, throws, in this order: NullPointerException: the"
            + " storage is lost; ArrayIndexOutOfBoundsException: there is no element, row or column of this number.",
            this::lostBeforeOutside);
        sentences.terms("A call that throws changes nothing, but where told.", this::refusedCallsChangeNothing);
    }

    private void refusalsAreAnswers() {
        TypedHall hall = furnished();
        for (int again = 0; again < 60; again++) {
            check.refuses(Check.ABSENT, () -> hall.size(NONE));
            check.refuses(Check.ABSENT, () -> hall.size(LOST));
            check.refuses(Check.OUTSIDE, () -> hall.take(INTS, 3));
            check.refuses(Check.DIVISION, () -> hall.setCell(GRID, 0, 0, 1, 0));
            check.refuses(Check.NEGATIVE, () -> hall.resize(INTS, -1));
            check.answers(11, () -> hall.take(INTS, 1));
        }
    }

    private void lastCallsAnswer() {
        TypedHall makes = new TypedHall();
        TypedHall grids = new TypedHall();
        TypedHall records = new TypedHall();
        for (int call = 1; call <= CALLS; call++) {
            int due = call;
            check.answers(due, () -> makes.make(due % 8, due % 9, 24));
            check.answers(due, () -> grids.grid(due % 8, 6, 4));
            check.answers(due, () -> records.record(due % 8));
        }
        TypedHall refused = new TypedHall();
        for (int call = 1; call < CALLS; call++) {
            check.refuses(Check.ABSENT, () -> refused.total(0));
        }
        check.answers(1, () -> refused.record(0));
        TypedHall chained = new TypedHall();
        for (int call = 1; call + 3 <= CALLS; call += 3) {
            chained.record(1);
            chained.link(1, 0);
            chained.copy(0, 1);
        }
        check.answers(0, () -> chained.total(0));
    }

    private void registers() {
        TypedHall hall = new TypedHall();
        for (int register = 0; register < 8; register++) {
            int r = register;
            check.refuses(Check.ABSENT, () -> hall.size(r));
        }
        check.refuses(Check.ARGUMENT, () -> hall.size(-1));
        check.refuses(Check.ARGUMENT, () -> hall.size(8));
        hall.make(0, 4, 1);
        for (int register = 1; register < 8; register++) {
            hall.copy(register, register - 1);
        }
        hall.put(7, 0, 70);
        for (int register = 0; register < 8; register++) {
            int r = register;
            check.answers(70, () -> hall.take(r, 0));
        }
        for (int register = 0; register < 8; register++) {
            hall.make(register, 5, register);
        }
        for (int register = 0; register < 8; register++) {
            int r = register;
            check.answers(r, () -> hall.size(r));
        }
    }

    private void elements() {
        long[][] ranges = {{0, 1}, {-128, 127}, {-32768, 32767}, {0, 65535}, {MIN, MAX},
            {Long.MIN_VALUE, Long.MAX_VALUE}};
        for (int sort = 0; sort < 6; sort++) {
            TypedHall hall = new TypedHall();
            long least = ranges[sort][0];
            long most = ranges[sort][1];
            hall.make(0, sort, 2);
            hall.put(0, 0, least);
            hall.put(0, 1, most);
            check.answers(least, () -> hall.take(0, 0));
            check.answers(most, () -> hall.take(0, 1));
            check.refuses(Check.OUTSIDE, () -> hall.take(0, -1));
            check.refuses(Check.OUTSIDE, () -> hall.take(0, 2));
            if (sort > 0) {
                check.answers(least, () -> hall.put(0, 1, most + 1));
                check.answers(most, () -> hall.put(0, 0, least - 1));
            }
        }
        exactFloats();
        itemsOrNone();
    }

    private void exactFloats() {
        for (int sort = 6; sort <= 7; sort++) {
            TypedHall hall = new TypedHall();
            hall.make(0, sort, 1);
            long exact = 1L << (sort == 6 ? 24 : 53);
            for (long value : new long[] {exact, -exact, exact - 1, 1 - exact, 1L << 62, Long.MIN_VALUE}) {
                check.answers(value, () -> hall.put(0, 0, value));
                check.answers(value, () -> hall.take(0, 0));
            }
        }
    }

    private void itemsOrNone() {
        int[] sorts = {-1, 4, 4, 9, 10, 10, 8, 5};
        for (int register = 0; register < 8; register++) {
            TypedHall hall = furnished();
            int r = register;
            hall.refer(ITEMS, 1, r);
            check.answers(sorts[r], () -> hall.fetch(NONE, ITEMS, 1));
        }
    }

    private void windows() {
        TypedHall hall = new TypedHall();
        hall.make(0, 5, 3);
        hall.put(0, 0, 50);
        hall.put(0, 1, 51);
        hall.put(0, 2, 52);
        for (int offset : new int[] {0, 1, 3, -1, MAX, MAX - 1, MIN, MIN + 1}) {
            hall.window(1, 0, offset);
            check.refuses(Check.OUTSIDE, () -> hall.take(1, -1 - offset));
            check.answers(50, () -> hall.take(1, 0 - offset));
            check.answers(51, () -> hall.take(1, 1 - offset));
            check.answers(52, () -> hall.take(1, 2 - offset));
            check.refuses(Check.OUTSIDE, () -> hall.take(1, 3 - offset));
            hall.window(2, 1, MAX);
            hall.window(2, 2, 2);
            check.answers(50, () -> hall.take(2, MAX - offset));
            check.answers(52, () -> hall.take(2, MIN + 1 - offset));
        }
    }

    private void grids() {
        TypedHall hall = new TypedHall();
        hall.grid(0, 6, 4);
        hall.setCell(0, 0, 0, MIN, 1);
        hall.setCell(0, 5, 3, MAX, 1);
        check.answers(MIN, () -> hall.cell(0, 0, 0));
        check.answers(MAX, () -> hall.cell(0, 5, 3));
        for (int row = 0; row < 6; row++) {
            int r = row;
            check.refuses(Check.OUTSIDE, () -> hall.cell(0, r, -1));
            check.refuses(Check.OUTSIDE, () -> hall.cell(0, r, 4));
            check.answers(4, () -> hall.lose(0, r));
        }
        check.refuses(Check.OUTSIDE, () -> hall.cell(0, -1, 0));
        check.refuses(Check.OUTSIDE, () -> hall.cell(0, 6, 0));
    }

    private void records() {
        TypedHall hall = new TypedHall();
        hall.record(0);
        hall.exchange(0, Long.MIN_VALUE);
        check.answers(Long.MIN_VALUE, () -> hall.exchange(0, Long.MAX_VALUE));
        check.answers(Long.MAX_VALUE, () -> hall.total(0));
        check.says(true, () -> hall.follow(1, 0));
        hall.record(1);
        hall.link(0, 1);
        check.says(false, () -> hall.follow(2, 0));
        check.says(true, () -> hall.copy(2, 1));
    }

    private void newItems() {
        for (int sort = 0; sort <= 7; sort++) {
            TypedHall hall = new TypedHall();
            hall.make(0, sort, 24);
            for (int index = 0; index < 24; index++) {
                int i = index;
                check.answers(0, () -> hall.take(0, i));
            }
        }
        TypedHall hall = new TypedHall();
        hall.make(0, 8, 24);
        hall.grid(1, 6, 4);
        for (int index = 0; index < 24; index++) {
            int i = index;
            check.answers(-1, () -> hall.fetch(7, 0, i));
            check.answers(0, () -> hall.cell(1, i / 4, i % 4));
        }
        hall.record(2);
        check.answers(0, () -> hall.exchange(2, 1));
        check.says(true, () -> hall.follow(3, 2));
    }

    private void lostStorage() {
        for (int sort = 0; sort <= 8; sort++) {
            // Of no elements, yet there: to be empty is not to be lost.
            for (int size = 0; size <= 24; size += 24) {
                TypedHall hall = new TypedHall();
                int due = size;
                hall.make(0, sort, due);
                hall.make(1, sort, due);
                check.answers(due, () -> hall.size(0));
                check.answers(due, () -> hall.lose(0, 0));
                check.refuses(Check.ABSENT, () -> hall.size(0));
                check.answers(due, () -> hall.size(1));
            }
        }
        TypedHall hall = new TypedHall();
        hall.grid(0, 2, 0);
        check.refuses(Check.OUTSIDE, () -> hall.cell(0, 0, 0));
        hall.lose(0, 0);
        check.refuses(Check.ABSENT, () -> hall.cell(0, 0, 0));
        check.refuses(Check.OUTSIDE, () -> hall.cell(0, 1, 0));
    }

    private void putBit() {
        TypedHall hall = new TypedHall();
        hall.make(0, 0, 1);
        check.answers(0, () -> hall.put(0, 0, 0));
        for (long value : new long[] {1, -1, 2, 256, 65536, 1L << 32, 1L << 62, Long.MIN_VALUE, Long.MAX_VALUE}) {
            check.answers(1, () -> hall.put(0, 0, value));
            check.answers(1, () -> hall.take(0, 0));
            check.answers(0, () -> hall.put(0, 0, 0));
            check.answers(0, () -> hall.take(0, 0));
        }
    }

    private void putLowestBits() {
        int[] bits = {0, 8, 16, 16, 32};
        for (int sort = 1; sort <= 4; sort++) {
            TypedHall hall = new TypedHall();
            hall.make(0, sort, 1);
            long beyond = 1L << bits[sort];
            long half = beyond / 2;
            long sign = sort == 3 ? 0 : beyond;
            check.answers(half - 1, () -> hall.put(0, 0, half - 1));
            check.answers(half - sign, () -> hall.put(0, 0, half));
            check.answers(beyond - 1 - sign, () -> hall.put(0, 0, beyond - 1));
            check.answers(0, () -> hall.put(0, 0, beyond));
            check.answers(1, () -> hall.put(0, 0, beyond + 1));
            check.answers(beyond - 1 - sign, () -> hall.put(0, 0, -1));
            check.answers(half - sign, () -> hall.put(0, 0, -half));
            check.answers(half - 1, () -> hall.put(0, 0, -half - 1));
            check.answers(0, () -> hall.put(0, 0, Long.MIN_VALUE));
            check.answers(beyond - 1 - sign, () -> hall.put(0, 0, Long.MAX_VALUE));
            check.answers(5, () -> hall.put(0, 0, 3 * beyond + 5));
            check.answers(5, () -> hall.put(0, 0, -3 * beyond + 5));
        }
    }

    private void putRounded() {
        long[][] floats = {{16777215, 16777215}, {16777217, 16777216}, {16777218, 16777218}, {16777219, 16777220},
            {33554433, 33554432}, {33554434, 33554432}, {33554435, 33554436}, {33554438, 33554440},
            // Just above the middle of two floats, which a rounding by way of a double would not see.
            {1152921573326323713L, 1152921642045800448L}, {1152921573326323712L, 1152921504606846976L}};
        long[][] doubles = {{9007199254740991L, 9007199254740991L}, {9007199254740993L, 9007199254740992L},
            {9007199254740994L, 9007199254740994L}, {9007199254740995L, 9007199254740996L},
            {18014398509481985L, 18014398509481984L}, {18014398509481986L, 18014398509481984L},
            {18014398509481987L, 18014398509481988L}, {18014398509481990L, 18014398509481992L}};
        for (int sort = 6; sort <= 7; sort++) {
            TypedHall hall = new TypedHall();
            hall.make(0, sort, 1);
            for (long[] due : sort == 6 ? floats : doubles) {
                check.answers(due[1], () -> hall.put(0, 0, due[0]));
                check.answers(-due[1], () -> hall.put(0, 0, -due[0]));
                check.answers(-due[1], () -> hall.take(0, 0));
            }
        }
    }

    private void takeBeyond() {
        // The last long that is rounded down, and the first one that is rounded up to 2^63.
        long[][] lasts = {{9223371761976868863L, 9223371487098961920L}, {9223372036854775295L, 9223372036854774784L}};
        for (int sort = 6; sort <= 7; sort++) {
            TypedHall hall = new TypedHall();
            long[] last = lasts[sort - 6];
            hall.make(0, sort, 1);
            hall.put(0, 0, last[0]);
            check.answers(last[1], () -> hall.take(0, 0));
            hall.put(0, 0, last[0] + 1);
            check.answers(Long.MAX_VALUE, () -> hall.take(0, 0));
            hall.put(0, 0, Long.MAX_VALUE);
            check.answers(Long.MAX_VALUE, () -> hall.take(0, 0));
            hall.put(0, 0, Long.MIN_VALUE);
            check.answers(Long.MIN_VALUE, () -> hall.take(0, 0));
            hall.put(0, 0, -last[0] - 1);
            check.answers(Long.MIN_VALUE, () -> hall.take(0, 0));
            hall.put(0, 0, -last[0]);
            check.answers(-last[1], () -> hall.take(0, 0));
        }
    }

    private void sorts() {
        TypedHall hall = new TypedHall();
        hall.make(0, 8, 1);
        for (int sort = 0; sort <= 8; sort++) {
            int due = sort;
            hall.make(1, sort, 1);
            for (int windows = 0; windows <= 6; windows++) {
                hall.refer(0, 0, 1);
                check.answers(due, () -> hall.fetch(2, 0, 0));
                if (windows < 6) {
                    hall.window(1, 1, 1);
                }
            }
        }
        hall.grid(1, 0, 0);
        hall.refer(0, 0, 1);
        check.answers(9, () -> hall.fetch(2, 0, 0));
        hall.record(1);
        hall.refer(0, 0, 1);
        check.answers(10, () -> hall.fetch(2, 0, 0));
    }

    private void rangesFirst() {
        // Each of these calls has another cause to be refused, which comes later.
        CallWith[] withRegister = {
            (h, wrong) -> h.make(wrong, 4, -1),
            (h, wrong) -> h.grid(wrong, -1, -1),
            (h, wrong) -> h.record(wrong),
            (h, wrong) -> h.window(wrong, NONE, 0),
            (h, wrong) -> h.window(INTS, wrong, 0),
            (h, wrong) -> h.copy(wrong, INTS),
            (h, wrong) -> h.lose(wrong, 9),
            (h, wrong) -> h.resize(wrong, -1),
            (h, wrong) -> h.size(wrong),
            (h, wrong) -> h.take(wrong, 9),
            (h, wrong) -> h.put(wrong, 9, 1),
            (h, wrong) -> h.cell(wrong, 9, 9),
            (h, wrong) -> h.setCell(wrong, 9, 9, 1, 0),
            (h, wrong) -> h.refer(wrong, 9, INTS),
            (h, wrong) -> h.refer(NONE, 9, wrong),
            (h, wrong) -> h.fetch(wrong, NONE, 9),
            (h, wrong) -> h.fetch(INTS, wrong, 9),
            (h, wrong) -> h.link(wrong, INTS),
            (h, wrong) -> h.link(NONE, wrong),
            (h, wrong) -> h.follow(wrong, INTS),
            (h, wrong) -> h.follow(INTS, wrong),
            (h, wrong) -> h.exchange(wrong, 1),
            (h, wrong) -> h.total(wrong),
            (h, wrong) -> h.combine(3, wrong, 9, NONE, 9),
            (h, wrong) -> h.combine(3, NONE, 9, wrong, 9),
            (h, wrong) -> h.move(wrong, 9, NONE, 9, 1),
            (h, wrong) -> h.move(NONE, 9, wrong, 9, 1)};
        for (CallWith call : withRegister) {
            leavesEach(Check.ARGUMENT, call, -1, 8, MAX, MIN);
        }
        leavesEach(Check.ARGUMENT, (h, wrong) -> h.copy(INTS, wrong), -2, 8, MAX, MIN);
        leavesEach(Check.ARGUMENT, (h, wrong) -> h.make(INTS, wrong, -1), -1, 9, MAX, MIN);
        leavesEach(Check.ARGUMENT, (h, wrong) -> h.make(INTS, 4, wrong), 25, MAX);
        leavesEach(Check.ARGUMENT, (h, wrong) -> h.grid(INTS, wrong, -1), 7, MAX);
        leavesEach(Check.ARGUMENT, (h, wrong) -> h.grid(INTS, -1, wrong), 5, MAX);
        leavesEach(Check.ARGUMENT, (h, wrong) -> h.resize(NONE, wrong), 25, MAX);
        leavesEach(Check.ARGUMENT, (h, wrong) -> h.resize(GRID, wrong), 25, MAX);
        leavesEach(Check.ARGUMENT, (h, wrong) -> h.resize(LOST, wrong), 25, MAX);
        leavesEach(Check.ARGUMENT, (h, wrong) -> h.combine(wrong, NONE, 9, GRID, 9), -1, 5, MAX, MIN);
        leavesEach(Check.ARGUMENT, (h, wrong) -> h.move(NONE, 9, GRID, 9, wrong), -1, 25, MAX, MIN);
    }

    private void lostBeforeOutside() {
        for (int index : new int[] {0, 1, 2, -1, MAX, MIN}) {
            leaves(Check.ABSENT, h -> h.take(LOST, index));
            leaves(Check.ABSENT, h -> h.put(LOST, index, 1));
            leaves(Check.ABSENT, h -> h.cell(GRID, LOST_ROW, index));
            leaves(Check.ABSENT, h -> h.setCell(GRID, LOST_ROW, index, 1, 1));
            leaves(Check.ABSENT, h -> h.combine(0, LOST, index, INTS, 0));
            leaves(Check.ABSENT, h -> h.combine(0, INTS, 0, LOST, index));
            leaves(Check.ABSENT, h -> h.move(LOST, index, INTS, 0, 1));
            leaves(Check.ABSENT, h -> h.move(INTS, 0, LOST, index, 1));
            TypedHall hall = furnished();
            hall.lose(ITEMS, 0);
            check.refuses(Check.ABSENT, () -> hall.refer(ITEMS, index, NONE));
            check.refuses(Check.ABSENT, () -> hall.fetch(NONE, ITEMS, index));
        }
        for (int index : new int[] {3, -1, MAX, MIN}) {
            leaves(Check.OUTSIDE, h -> h.take(INTS, index));
            leaves(Check.OUTSIDE, h -> h.put(INTS, index, 1));
            leaves(Check.OUTSIDE, h -> h.cell(GRID, index, 0));
            leaves(Check.OUTSIDE, h -> h.cell(GRID, 0, index));
            leaves(Check.OUTSIDE, h -> h.setCell(GRID, index, 0, 1, 1));
            leaves(Check.OUTSIDE, h -> h.setCell(GRID, 0, index, 1, 1));
            leaves(Check.OUTSIDE, h -> h.lose(GRID, index));
            leaves(Check.OUTSIDE, h -> h.refer(ITEMS, index, INTS));
            leaves(Check.OUTSIDE, h -> h.fetch(INTS, ITEMS, index));
            leaves(Check.OUTSIDE, h -> h.combine(0, INTS, index, INTS, 0));
            leaves(Check.OUTSIDE, h -> h.combine(0, INTS, 0, INTS, index));
            leaves(Check.OUTSIDE, h -> h.move(INTS, index, INTS, 0, 1));
            leaves(Check.OUTSIDE, h -> h.move(INTS, 0, INTS, index, 1));
        }
    }

    private void refusedCallsChangeNothing() {
        leaves(Check.NEGATIVE, h -> h.make(INTS, 4, -1));
        leaves(Check.NEGATIVE, h -> h.grid(GRID, 1, -1));
        leaves(Check.ARGUMENT, h -> h.record(8));
        leaves(Check.UNSUPPORTED, h -> h.window(INTS, GRID, 0));
        leaves(Check.ARGUMENT, h -> h.copy(INTS, 8));
        leaves(Check.OUTSIDE, h -> h.lose(GRID, 3));
        leaves(Check.NEGATIVE, h -> h.resize(INTS, -1));
        leaves(Check.ABSENT, h -> h.size(LOST));
        leaves(Check.OUTSIDE, h -> h.take(INTS, 3));
        leaves(Check.OUTSIDE, h -> h.put(INTS, 3, 1));
        leaves(Check.ABSENT, h -> h.cell(GRID, LOST_ROW, 0));
        leaves(Check.DIVISION, h -> h.setCell(GRID, 0, 0, 1, 0));
        leaves(Check.OUTSIDE, h -> h.refer(ITEMS, 2, INTS));
        leaves(Check.OUTSIDE, h -> h.fetch(INTS, ITEMS, 2));
        leaves(Check.UNSUPPORTED, h -> h.link(RECORD, INTS));
        leaves(Check.UNSUPPORTED, h -> h.follow(RECORD, INTS));
        leaves(Check.UNSUPPORTED, h -> h.exchange(INTS, 1));
        leaves(Check.ABSENT, h -> h.total(NONE));
        leaves(Check.DIVISION, h -> h.combine(3, INTS, 0, INTS, 2));
        TypedHall told = furnished();
        check.refuses(Check.OUTSIDE, () -> told.move(INTS, 2, INTS, 0, 2));
        check.answers(10, () -> told.take(INTS, 2));
    }
}
