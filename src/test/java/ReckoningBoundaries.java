/** Promises 20 and 21: what is reckoned from two elements, and what is moved from one item to another. */
final class ReckoningBoundaries extends Boundaries {
    private static final int SUM = 0;
    private static final int DIFFERENCE = 1;
    private static final int PRODUCT = 2;
    private static final int QUOTIENT = 3;
    private static final int REMAINDER = 4;

    ReckoningBoundaries(Sentences sentences) {
        super(sentences);
    }

    @Override
    void run() {
        combine();
        combineRefusals();
        move();
    }

    private void combine() {
        sentences.promise(20, "Puts into an element what it and an element of the other register's item (maybe the same)"
            + " give by an operation 0 .. 4:", this::combinePuts);
        sentences.promise(20, "sum, difference, product,", this::combineAddsAndMultiplies);
        sentences.promise(20, "quotient toward 0, remainder of that;", this::combineDivides);
        sentences.promise(20, "reckoned with ints if both sorts are below 5, else with longs, wrapping",
            this::combineIntsOrLongs);
        sentences.promise(20, "(the least one by -1 stays, remainder 0);", this::combineLeast);
        sentences.promise(20, "answers the element then, taken again.", this::combineAnswers);
    }

    private void combineRefusals() {
        sentences.promise(20, "NullPointerException: one holds NONE.", this::combineNone);
        sentences.promise(20, "UnsupportedOperationException: one has a sort above 5.", this::combineUnsupported);
        sentences.promise(20, "Then as for the first element, then as for the other one;", this::combineElements);
        sentences.promise(20, "then ArithmeticException: a quotient or remainder by 0.", this::combineByZero);
    }

    private void move() {
        sentences.promise(21, "Puts n (0 .. 24) elements of the other register's item, from at on, into those of the"
            + " register's, from index on, one by one", this::moves);
        sentences.promise(21, "(both numbers wrapping):", this::moveWraps);
        sentences.promise(21, "each is taken, then put.", this::moveTakesThenPuts);
        sentences.promise(21, "NullPointerException: one holds NONE.", this::moveNone);
        sentences.promise(21, "UnsupportedOperationException: one has a sort above 7.", this::moveUnsupported);
        sentences.promise(21, "Then for each as for the element taken, then as for the other:", this::moveElements);
        sentences.promise(21, "those before it are put.", this::moveStops);
        sentences.promise(21, "Answers n.", this::moveAnswers);
    }

    /** What an element of a sort becomes by an operation with one of another sort. */
    private void becomes(long due, int sort, long left, int operation, int otherSort, long right) {
        TypedHall hall = new TypedHall();
        hall.make(0, sort, 2);
        hall.make(1, otherSort, 2);
        hall.put(0, 0, left);
        hall.put(1, 1, right);
        check.answers(due, () -> hall.combine(operation, 0, 0, 1, 1));
        check.answers(due, () -> hall.take(0, 0));
    }

    private void combinePuts() {
        TypedHall hall = new TypedHall();
        hall.make(0, 4, 24);
        hall.put(0, 23, 6);
        hall.put(0, 0, 2);
        check.answers(8, () -> hall.combine(SUM, 0, 23, 0, 0));
        check.answers(8, () -> hall.take(0, 23));
        check.answers(2, () -> hall.take(0, 0));
        check.answers(0, () -> hall.take(0, 1));
        check.answers(64, () -> hall.combine(PRODUCT, 0, 23, 0, 23));
        check.answers(0, () -> hall.combine(DIFFERENCE, 0, 23, 0, 23));
        hall.window(1, 0, MIN);
        hall.put(0, 5, 50);
        check.answers(52, () -> hall.combine(SUM, 1, MIN, 0, 5));
        check.answers(52, () -> hall.take(0, 0));
        check.answers(102, () -> hall.combine(SUM, 0, 5, 1, MIN));
        check.answers(102, () -> hall.take(0, 5));
        check.answers(52, () -> hall.take(0, 0));
        leavesEach(Check.ARGUMENT, (h, operation) -> h.combine(operation, INTS, 0, INTS, 1), -1, 5, MAX, MIN);
    }

    private void combineAddsAndMultiplies() {
        for (int sort = 1; sort <= 5; sort++) {
            for (int other = 1; other <= 5; other++) {
                becomes(9, sort, 7, SUM, other, 2);
                becomes(5, sort, 7, DIFFERENCE, other, 2);
                becomes(14, sort, 7, PRODUCT, other, 2);
                becomes(7, sort, 7, SUM, other, 0);
                becomes(7, sort, 7, DIFFERENCE, other, 0);
                becomes(0, sort, 7, PRODUCT, other, 0);
            }
        }
    }

    private void combineDivides() {
        for (int sort : new int[] {1, 2, 4, 5}) {
            for (int other : new int[] {1, 2, 4, 5}) {
                becomes(3, sort, 7, QUOTIENT, other, 2);
                becomes(-3, sort, -7, QUOTIENT, other, 2);
                becomes(-3, sort, 7, QUOTIENT, other, -2);
                becomes(3, sort, -7, QUOTIENT, other, -2);
                becomes(1, sort, 7, REMAINDER, other, 2);
                becomes(-1, sort, -7, REMAINDER, other, 2);
                becomes(1, sort, 7, REMAINDER, other, -2);
                becomes(-1, sort, -7, REMAINDER, other, -2);
                becomes(0, sort, -1, QUOTIENT, other, 2);
                becomes(-1, sort, -1, REMAINDER, other, 2);
                becomes(0, sort, 0, QUOTIENT, other, -5);
                becomes(0, sort, 0, REMAINDER, other, -5);
            }
        }
        becomes(32767, 3, 65535, QUOTIENT, 4, 2);
        becomes(1, 3, 65535, REMAINDER, 4, 2);
        becomes(1, 0, 5, QUOTIENT, 0, 3);
        becomes(0, 0, 5, REMAINDER, 0, 3);
    }

    private void combineIntsOrLongs() {
        becomes(MIN, 4, MAX, SUM, 4, 1);
        becomes(MAX, 4, MIN, DIFFERENCE, 4, 1);
        becomes(0, 4, 65536, PRODUCT, 4, 65536);
        becomes(1, 4, MAX, PRODUCT, 4, MAX);
        becomes(MAX + 1L, 5, MAX, SUM, 4, 1);
        becomes(MIN - 1L, 5, MIN, DIFFERENCE, 1, 1);
        becomes(1L << 32, 5, 65536, PRODUCT, 4, 65536);
        becomes(Long.MIN_VALUE, 5, Long.MAX_VALUE, SUM, 5, 1);
        becomes(Long.MAX_VALUE, 5, Long.MIN_VALUE, DIFFERENCE, 0, 1);
        becomes(0, 5, 1L << 32, PRODUCT, 5, 1L << 32);
        becomes(1, 5, Long.MAX_VALUE, PRODUCT, 5, Long.MAX_VALUE);
        // With ints the sum of 1 and 2^32 - 1 could not be told from 0: with longs it is not 0.
        becomes(1, 0, 1, SUM, 5, (1L << 32) - 1);
        becomes(0, 0, 1, SUM, 4, -1);
        // The longs of the other one count whole, though the result is put into an int.
        becomes(0, 4, MAX, QUOTIENT, 5, 1L << 32);
        becomes(MAX, 4, MAX, REMAINDER, 5, 1L << 32);
        becomes(0, 4, MIN, QUOTIENT, 5, 1L << 31 | 1);
        becomes(-1, 4, MIN, QUOTIENT, 5, 1L << 31);
        // Sorts below 4 are reckoned with ints too, and lose bits only when put.
        becomes(25, 1, 100, SUM, 3, 65461);
        becomes(-128, 1, 127, SUM, 1, 1);
        becomes(-32768, 2, 32767, SUM, 0, 1);
        becomes(65535, 3, 0, DIFFERENCE, 0, 1);
        becomes(1, 3, 65535, PRODUCT, 3, 65535);
        becomes(1, 0, 0, DIFFERENCE, 0, 1);
        becomes(1, 0, 1, SUM, 0, 1);
    }

    private void combineLeast() {
        for (int other : new int[] {1, 2, 4}) {
            becomes(MIN, 4, MIN, QUOTIENT, other, -1);
            becomes(0, 4, MIN, REMAINDER, other, -1);
        }
        for (int other : new int[] {1, 2, 4, 5}) {
            becomes(Long.MIN_VALUE, 5, Long.MIN_VALUE, QUOTIENT, other, -1);
            becomes(0, 5, Long.MIN_VALUE, REMAINDER, other, -1);
        }
        // With longs the least int has its opposite: put into an int, it is the least one again.
        becomes(MIN, 4, MIN, QUOTIENT, 5, -1);
        becomes(1L << 31, 5, MIN, QUOTIENT, 4, -1);
        becomes(0, 4, MIN, REMAINDER, 5, -1);
        becomes(-128, 1, -128, QUOTIENT, 1, -1);
        becomes(-32768, 2, -32768, QUOTIENT, 2, -1);
    }

    private void combineAnswers() {
        for (int sort = 0; sort <= 5; sort++) {
            for (int other = 0; other <= 5; other++) {
                for (int operation = SUM; operation <= REMAINDER; operation++) {
                    TypedHall hall = new TypedHall();
                    hall.make(0, sort, 1);
                    hall.make(1, other, 1);
                    hall.put(0, 0, -77777);
                    hall.put(1, 0, 33333);
                    long answer = hall.combine(operation, 0, 0, 1, 0);
                    check.answers(answer, () -> hall.take(0, 0));
                    check.answers(answer, () -> hall.put(0, 0, answer));
                }
            }
        }
        becomes(1, 0, 1, SUM, 1, 100);
        becomes(-56, 1, 100, SUM, 1, 100);
        becomes(-25536, 2, 30000, SUM, 2, 10000);
        becomes(4464, 3, 60000, SUM, 2, 10000);
    }

    private void combineNone() {
        for (int operation = SUM; operation <= REMAINDER; operation++) {
            int o = operation;
            leaves(Check.ABSENT, h -> h.combine(o, NONE, 0, NONE, 0));
            // Told before a wrong sort, a lost storage, a number outside and a division by 0 are.
            leavesEach(Check.ABSENT, (h, other) -> h.combine(o, NONE, 9, other, 9), 1, 2, 3, 4, 5, 6, 7);
            leavesEach(Check.ABSENT, (h, first) -> h.combine(o, first, 9, NONE, 9), 1, 2, 3, 4, 5, 6, 7);
        }
    }

    private void combineUnsupported() {
        for (int operation = SUM; operation <= REMAINDER; operation++) {
            int o = operation;
            for (int fine : new int[] {INTS, WINDOW, LOST}) {
                leavesEach(Check.UNSUPPORTED, (h, wrong) -> h.combine(o, wrong, 9, fine, 9), GRID, RECORD, ITEMS);
                leavesEach(Check.UNSUPPORTED, (h, wrong) -> h.combine(o, fine, 9, wrong, 9), GRID, RECORD, ITEMS);
            }
            leavesEach(Check.UNSUPPORTED, (h, wrong) -> h.combine(o, wrong, 0, wrong, 0), GRID, RECORD, ITEMS);
        }
        for (int sort = 6; sort <= 8; sort++) {
            TypedHall hall = furnished();
            hall.make(NONE, sort, 1);
            hall.window(GRID, NONE, 0);
            check.refuses(Check.UNSUPPORTED, () -> hall.combine(SUM, NONE, 0, INTS, 0));
            check.refuses(Check.UNSUPPORTED, () -> hall.combine(SUM, INTS, 0, NONE, 0));
            check.refuses(Check.UNSUPPORTED, () -> hall.combine(SUM, GRID, 0, INTS, 0));
            check.refuses(Check.UNSUPPORTED, () -> hall.combine(SUM, INTS, 0, GRID, 0));
        }
    }

    private void combineElements() {
        for (int operation = SUM; operation <= REMAINDER; operation++) {
            int o = operation;
            leavesEach(Check.OUTSIDE, (h, index) -> h.combine(o, INTS, index, LOST, 0), 3, -1, MAX, MIN);
            leavesEach(Check.OUTSIDE, (h, index) -> h.combine(o, INTS, index, INTS, 2), 3, -1, MAX, MIN);
            leavesEach(Check.ABSENT, (h, index) -> h.combine(o, LOST, index, INTS, 9), 0, 2, -1, MAX, MIN);
            leavesEach(Check.ABSENT, (h, at) -> h.combine(o, INTS, 0, LOST, at), 0, 2, -1, MAX, MIN);
            leavesEach(Check.OUTSIDE, (h, at) -> h.combine(o, INTS, 0, INTS, at), 3, -1, MAX, MIN);
            leavesEach(Check.OUTSIDE, (h, at) -> h.combine(o, INTS, 0, WINDOW, at), 2, -2, MAX, MIN);
        }
    }

    private void combineByZero() {
        for (int operation : new int[] {QUOTIENT, REMAINDER}) {
            leavesEach(Check.DIVISION, (h, index) -> h.combine(operation, INTS, index, INTS, 2), 0, 1, 2);
            leaves(Check.DIVISION, h -> h.combine(operation, WINDOW, 0, WINDOW, 1));
            for (int sort = 0; sort <= 5; sort++) {
                TypedHall hall = furnished();
                hall.make(NONE, sort, 1);
                check.refuses(Check.DIVISION, () -> hall.combine(operation, INTS, 0, NONE, 0));
                check.refuses(Check.DIVISION, () -> hall.combine(operation, NONE, 0, NONE, 0));
                check.answers(10, () -> hall.take(INTS, 0));
                check.answers(0, () -> hall.take(NONE, 0));
            }
        }
        // A long whose lowest 32 bits are 0 is no 0; a value that is put as 0 is one.
        becomes(0, 4, 5, QUOTIENT, 5, 1L << 32);
        TypedHall hall = furnished();
        hall.make(NONE, 1, 1);
        hall.put(NONE, 0, 256);
        check.refuses(Check.DIVISION, () -> hall.combine(QUOTIENT, INTS, 0, NONE, 0));
    }

    private void moves() {
        for (int sort = 0; sort <= 7; sort++) {
            for (int other = 0; other <= 7; other++) {
                TypedHall hall = new TypedHall();
                hall.make(0, sort, 24);
                hall.make(1, other, 24);
                hall.make(2, sort, 1);
                for (int i = 0; i < 24; i++) {
                    hall.put(1, i, i * 54321L - 600000);
                }
                hall.move(0, 0, 1, 0, 24);
                for (int i = 0; i < 24; i++) {
                    int at = i;
                    check.answers(hall.put(2, 0, hall.take(1, at)), () -> hall.take(0, at));
                }
            }
        }
        TypedHall hall = new TypedHall();
        hall.make(0, 4, 6);
        hall.make(1, 4, 6);
        for (int i = 0; i < 6; i++) {
            hall.put(1, i, 10 + i);
        }
        hall.move(0, 1, 1, 3, 2);
        long[] dues = {0, 13, 14, 0, 0, 0};
        for (int i = 0; i < 6; i++) {
            int at = i;
            check.answers(dues[at], () -> hall.take(0, at));
        }
        leavesEach(Check.ARGUMENT, (h, n) -> h.move(INTS, 0, INTS, 1, n), -1, 25, MAX, MIN);
        moveNothing();
    }

    /** Where nothing is moved, no element is looked at. */
    private void moveNothing() {
        TypedHall hall = furnished();
        check.answers(0, () -> hall.move(INTS, 9, INTS, -9, 0));
        check.answers(0, () -> hall.move(LOST, MAX, INTS, MIN, 0));
        check.answers(0, () -> hall.move(INTS, MIN, LOST, MAX, 0));
        check.answers(0, () -> hall.move(LOST, 0, LOST, 0, 0));
        check.answers(10, () -> hall.take(INTS, 0));
    }

    private void moveWraps() {
        TypedHall hall = new TypedHall();
        hall.make(0, 5, 4);
        hall.make(1, 5, 4);
        // Element 2 of the vector is the window's least one, element 1 its largest.
        hall.window(2, 0, MIN + 2);
        hall.window(3, 1, MIN + 2);
        for (int i = 0; i < 4; i++) {
            hall.put(1, i, 10 + i);
        }
        check.answers(4, () -> hall.move(2, MAX - 1, 3, MAX - 1, 4));
        for (int i = 0; i < 4; i++) {
            int at = i;
            check.answers(10 + at, () -> hall.take(0, at));
        }
        check.answers(3, () -> hall.move(0, 0, 3, MAX, 3));
        check.answers(11, () -> hall.take(0, 0));
        check.answers(13, () -> hall.take(0, 2));
        check.answers(2, () -> hall.move(2, MAX, 1, 0, 2));
        check.answers(10, () -> hall.take(0, 1));
        check.answers(11, () -> hall.take(0, 2));
        check.refuses(Check.OUTSIDE, () -> hall.move(0, 0, 1, MAX, 2));
        check.refuses(Check.OUTSIDE, () -> hall.move(0, MAX, 1, 0, 2));
    }

    private void moveTakesThenPuts() {
        TypedHall hall = new TypedHall();
        hall.make(0, 4, 4);
        hall.put(0, 0, 9);
        hall.move(0, 1, 0, 0, 3);
        for (int i = 0; i < 4; i++) {
            int at = i;
            check.answers(9, () -> hall.take(0, at));
        }
        for (int i = 0; i < 4; i++) {
            hall.put(0, i, i);
        }
        hall.move(0, 0, 0, 1, 3);
        long[] dues = {1, 2, 3, 3};
        for (int i = 0; i < 4; i++) {
            int at = i;
            check.answers(dues[at], () -> hall.take(0, at));
        }
        hall.move(0, 0, 0, 0, 4);
        check.answers(3, () -> hall.take(0, 2));
        // What is taken from a float is a long, which is then put as any other.
        hall.make(1, 6, 1);
        hall.make(2, 5, 1);
        hall.make(3, 1, 1);
        hall.put(1, 0, Long.MAX_VALUE);
        hall.move(2, 0, 1, 0, 1);
        check.answers(Long.MAX_VALUE, () -> hall.take(2, 0));
        hall.move(3, 0, 1, 0, 1);
        check.answers(-1, () -> hall.take(3, 0));
        hall.put(2, 0, 16777217);
        hall.move(1, 0, 2, 0, 1);
        check.answers(16777216, () -> hall.take(1, 0));
    }

    private void moveNone() {
        for (int n : new int[] {0, 1, 24}) {
            leaves(Check.ABSENT, h -> h.move(NONE, 0, NONE, 0, n));
            leavesEach(Check.ABSENT, (h, other) -> h.move(NONE, 9, other, 9, n), 1, 2, 3, 4, 5, 6, 7);
            leavesEach(Check.ABSENT, (h, first) -> h.move(first, 9, NONE, 9, n), 1, 2, 3, 4, 5, 6, 7);
        }
    }

    private void moveUnsupported() {
        for (int n : new int[] {0, 1, 24}) {
            for (int fine : new int[] {INTS, WINDOW, LOST}) {
                leavesEach(Check.UNSUPPORTED, (h, wrong) -> h.move(wrong, 9, fine, 9, n), GRID, RECORD, ITEMS);
                leavesEach(Check.UNSUPPORTED, (h, wrong) -> h.move(fine, 9, wrong, 9, n), GRID, RECORD, ITEMS);
            }
            leavesEach(Check.UNSUPPORTED, (h, wrong) -> h.move(wrong, 0, wrong, 0, n), GRID, RECORD, ITEMS);
        }
        TypedHall hall = furnished();
        hall.window(WINDOW, ITEMS, 0);
        check.refuses(Check.UNSUPPORTED, () -> hall.move(WINDOW, 0, INTS, 0, 0));
        check.refuses(Check.UNSUPPORTED, () -> hall.move(INTS, 0, WINDOW, 0, 0));
        hall.make(NONE, 7, 1);
        check.answers(1, () -> hall.move(NONE, 0, INTS, 0, 1));
    }

    private void moveElements() {
        // The element that is taken is looked at first, the one that is put then.
        leavesEach(Check.OUTSIDE, (h, at) -> h.move(LOST, 0, INTS, at, 1), 3, -1, MAX, MIN);
        leavesEach(Check.ABSENT, (h, at) -> h.move(INTS, 9, LOST, at, 1), 0, 9, -1, MAX, MIN);
        leavesEach(Check.ABSENT, (h, index) -> h.move(LOST, index, INTS, 0, 1), 0, 9, -1, MAX, MIN);
        leavesEach(Check.OUTSIDE, (h, index) -> h.move(INTS, index, INTS, 0, 1), 3, -1, MAX, MIN);
        leavesEach(Check.OUTSIDE, (h, n) -> h.move(INTS, -1, INTS, 0, n), 1, 2, 24);
        leavesEach(Check.OUTSIDE, (h, n) -> h.move(INTS, 0, INTS, -1, n), 1, 2, 24);
        TypedHall hall = new TypedHall();
        hall.make(0, 4, 0);
        check.refuses(Check.OUTSIDE, () -> hall.move(0, 0, 0, 0, 1));
    }

    private void moveStops() {
        for (int n = 3; n <= 24; n++) {
            TypedHall hall = new TypedHall();
            int count = n;
            hall.make(0, 4, 24);
            hall.make(1, 5, 2);
            hall.put(1, 0, 7);
            hall.put(1, 1, 8);
            check.refuses(Check.OUTSIDE, () -> hall.move(0, 0, 1, 0, count));
            check.answers(7, () -> hall.take(0, 0));
            check.answers(8, () -> hall.take(0, 1));
            check.answers(0, () -> hall.take(0, 2));
            check.refuses(Check.OUTSIDE, () -> hall.move(1, 1, 0, 0, count));
            check.answers(7, () -> hall.take(1, 0));
            check.answers(7, () -> hall.take(1, 1));
        }
        TypedHall hall = new TypedHall();
        hall.make(0, 4, 24);
        hall.make(1, 4, 24);
        hall.put(1, 23, 5);
        check.refuses(Check.OUTSIDE, () -> hall.move(0, 0, 1, 1, 24));
        check.answers(5, () -> hall.take(0, 22));
        check.answers(0, () -> hall.take(0, 23));
    }

    private void moveAnswers() {
        TypedHall hall = new TypedHall();
        hall.make(0, 4, 24);
        hall.make(1, 7, 24);
        for (int n = 0; n <= 24; n++) {
            int due = n;
            check.answers(due, () -> hall.move(0, 0, 1, 24 - due, due));
            check.answers(due, () -> hall.move(1, 24 - due, 1, 0, due));
        }
    }
}
