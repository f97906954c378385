/** Promises 10 to 15: single elements and cells. */
final class ElementsBoundaries extends Boundaries {
    private static final int[] OUTSIDE_THREE = {3, 4, -1, MAX, MIN};
    private static final int[] OUTSIDE_TWO = {2, 3, -1, MAX, MIN};

    ElementsBoundaries(Sentences sentences) {
        super(sentences);
    }

    @Override
    void run() {
        sentences.promise(10, "Takes an element of a vector or window.", this::takes);
        sentences.promise(10, "NullPointerException: NONE.",
            () -> leavesEach(Check.ABSENT, (h, index) -> h.take(NONE, index), 0, -1, MAX, MIN));
        sentences.promise(10, "UnsupportedOperationException: its sort is above 7.", this::takeUnsupported);
        sentences.promise(10, "Then as for elements.", this::takeRefused);
        sentences.promise(11, "Puts a value into an element, and answers what it is then, taken again.", this::puts);
        sentences.promise(11, "As for take.", this::putRefused);
        cellAndSetCell();
        referAndFetch();
    }

    private void cellAndSetCell() {
        sentences.promise(12, "The int in a row and a column of a grid.", this::cells);
        sentences.promise(12, "UnsupportedOperationException: it is another item.", this::cellUnsupported);
        sentences.promise(12, "NullPointerException: NONE.",
            () -> leavesEach(Check.ABSENT, (h, row) -> h.cell(NONE, row, row), 0, -1, MAX, MIN));
        sentences.promise(12, "ArrayIndexOutOfBoundsException: no such row.", this::cellNoRow);
        sentences.promise(12, "Then as for its storage.", this::cellStorage);
        sentences.promise(13, "Sets that int to value divided by divisor, rounded toward 0", this::setCellDivides);
        sentences.promise(13, "(the least int by -1 stays).", this::setCellLeast);
        sentences.promise(13, "First as for cell up to the row;", this::setCellFirst);
        sentences.promise(13, "then ArithmeticException: divisor is 0;", this::setCellDivisor);
        sentences.promise(13, "then as for the row's storage.", this::setCellStorage);
    }

    private void referAndFetch() {
        sentences.promise(14, "Sets an element of sort 8 to what the register from holds, or NONE.", this::refers);
        sentences.promise(14, "NullPointerException: NONE.",
            () -> leavesEach(Check.ABSENT, (h, index) -> h.refer(NONE, index, INTS), 0, -1, MAX, MIN));
        sentences.promise(14, "UnsupportedOperationException: its sort is not 8.", this::referUnsupported);
        sentences.promise(14, "Then as for elements.", this::referRefused);
        sentences.promise(15, "The register to holds what an element of sort 8 is;", this::fetches);
        sentences.promise(15, "answers its sort, -1 for NONE.", this::fetchAnswers);
        sentences.promise(15, "As for refer.", this::fetchRefused);
    }

    private void takes() {
        for (int sort = 0; sort <= 7; sort++) {
            TypedHall hall = new TypedHall();
            hall.make(0, sort, 24);
            hall.put(0, 0, 1);
            hall.put(0, 23, 1);
            hall.window(1, 0, 23);
            check.answers(1, () -> hall.take(0, 0));
            check.answers(0, () -> hall.take(0, 1));
            check.answers(1, () -> hall.take(0, 23));
            check.answers(1, () -> hall.take(1, 0));
            check.answers(0, () -> hall.take(1, -1));
            check.answers(1, () -> hall.take(1, -23));
        }
    }

    private void takeUnsupported() {
        for (int index : new int[] {0, 9, -1, MIN}) {
            leavesEach(Check.UNSUPPORTED, (h, other) -> h.take(other, index), GRID, RECORD, ITEMS);
            TypedHall hall = furnished();
            hall.window(WINDOW, ITEMS, 0);
            check.refuses(Check.UNSUPPORTED, () -> hall.take(WINDOW, index));
            hall.lose(ITEMS, 0);
            check.refuses(Check.UNSUPPORTED, () -> hall.take(ITEMS, index));
            check.refuses(Check.UNSUPPORTED, () -> hall.take(WINDOW, index));
        }
    }

    private void takeRefused() {
        leavesEach(Check.ABSENT, (h, index) -> h.take(LOST, index), 0, 1, 2, -1, MAX, MIN);
        leavesEach(Check.OUTSIDE, (h, index) -> h.take(INTS, index), OUTSIDE_THREE);
        leavesEach(Check.OUTSIDE, (h, index) -> h.take(WINDOW, index), 2, -2, MAX, MIN);
        TypedHall hall = new TypedHall();
        for (int sort = 0; sort <= 7; sort++) {
            hall.make(0, sort, 0);
            check.refuses(Check.OUTSIDE, () -> hall.take(0, 0));
            hall.resize(0, 24);
            check.refuses(Check.OUTSIDE, () -> hall.take(0, 24));
            hall.resize(0, 23);
            check.refuses(Check.OUTSIDE, () -> hall.take(0, 23));
            hall.lose(0, 0);
            check.refuses(Check.ABSENT, () -> hall.take(0, 0));
        }
    }

    private void puts() {
        for (int sort = 0; sort <= 7; sort++) {
            TypedHall hall = new TypedHall();
            hall.make(0, sort, 24);
            hall.window(1, 0, MIN);
            for (int index : new int[] {0, 11, 23}) {
                for (long value : new long[] {1, Long.MAX_VALUE, 300, 1L << 31, Long.MIN_VALUE, -1}) {
                    long answer = hall.put(0, index, value);
                    check.answers(answer, () -> hall.take(0, index));
                    check.answers(answer, () -> hall.put(1, index + MIN, value));
                    check.answers(answer, () -> hall.take(0, index));
                }
            }
            check.answers(0, () -> hall.take(0, 1));
            check.answers(0, () -> hall.take(0, 12));
            check.answers(0, () -> hall.take(0, 22));
        }
    }

    private void putRefused() {
        leavesEach(Check.ABSENT, (h, index) -> h.put(NONE, index, 1), 0, -1, MAX, MIN);
        for (int index : new int[] {0, 9, -1, MIN}) {
            leavesEach(Check.UNSUPPORTED, (h, other) -> h.put(other, index, 1), GRID, RECORD, ITEMS);
            TypedHall hall = furnished();
            hall.window(WINDOW, ITEMS, 0);
            hall.lose(ITEMS, 0);
            check.refuses(Check.UNSUPPORTED, () -> hall.put(WINDOW, index, 1));
        }
        leavesEach(Check.ABSENT, (h, index) -> h.put(LOST, index, 1), 0, 1, 2, -1, MAX, MIN);
        leavesEach(Check.OUTSIDE, (h, index) -> h.put(INTS, index, 1), OUTSIDE_THREE);
        leavesEach(Check.OUTSIDE, (h, index) -> h.put(WINDOW, index, 1), 2, -2, MAX, MIN);
    }

    private void cells() {
        TypedHall hall = new TypedHall();
        hall.grid(0, 6, 4);
        for (int place = 0; place < 24; place++) {
            hall.setCell(0, place / 4, place % 4, place + 1, 1);
        }
        for (int place = 0; place < 24; place++) {
            int p = place;
            check.answers(p + 1, () -> hall.cell(0, p / 4, p % 4));
        }
    }

    private void cellUnsupported() {
        for (int number : new int[] {0, 9, -1, MIN}) {
            leavesEach(Check.UNSUPPORTED, (h, other) -> h.cell(other, number, number),
                INTS, WINDOW, RECORD, ITEMS, LOST);
        }
    }

    private void cellNoRow() {
        for (int column : new int[] {0, 2, -1, MIN}) {
            leavesEach(Check.OUTSIDE, (h, row) -> h.cell(GRID, row, column), OUTSIDE_THREE);
        }
        TypedHall hall = new TypedHall();
        hall.grid(0, 0, 4);
        check.refuses(Check.OUTSIDE, () -> hall.cell(0, 0, 0));
        hall.grid(0, 6, 4);
        check.refuses(Check.OUTSIDE, () -> hall.cell(0, 6, 0));
    }

    private void cellStorage() {
        leavesEach(Check.ABSENT, (h, column) -> h.cell(GRID, LOST_ROW, column), 0, 1, 2, -1, MAX, MIN);
        leavesEach(Check.OUTSIDE, (h, column) -> h.cell(GRID, 1, column), OUTSIDE_TWO);
        TypedHall hall = new TypedHall();
        hall.grid(0, 1, 0);
        check.refuses(Check.OUTSIDE, () -> hall.cell(0, 0, 0));
        hall.grid(0, 6, 4);
        check.refuses(Check.OUTSIDE, () -> hall.cell(0, 5, 4));
    }

    private void setCellDivides() {
        int[][] dues = {{7, 2, 3}, {-7, 2, -3}, {7, -2, -3}, {-7, -2, 3}, {1, 2, 0}, {-1, 2, 0}, {0, -1, 0}, {5, 5, 1},
            {4, 5, 0}, {-6, 5, -1}, {MAX, 1, MAX}, {MAX, -1, -MAX}, {MAX, MAX, 1}, {MAX, MIN, 0}, {MIN, 1, MIN},
            {MIN, MAX, -1}, {MIN, MIN, 1}, {MIN, 2, MIN / 2}, {MIN + 1, -1, MAX}};
        TypedHall hall = new TypedHall();
        hall.grid(0, 2, 2);
        for (int[] due : dues) {
            hall.setCell(0, 1, 0, due[0], due[1]);
            check.answers(due[2], () -> hall.cell(0, 1, 0));
        }
        check.answers(0, () -> hall.cell(0, 0, 0));
        check.answers(0, () -> hall.cell(0, 0, 1));
        check.answers(0, () -> hall.cell(0, 1, 1));
    }

    private void setCellLeast() {
        TypedHall hall = new TypedHall();
        hall.grid(0, 6, 4);
        hall.setCell(0, 5, 3, MIN, -1);
        check.answers(MIN, () -> hall.cell(0, 5, 3));
    }

    private void setCellFirst() {
        for (int number : new int[] {0, 9, -1, MIN}) {
            for (int divisor : new int[] {0, 1}) {
                leavesEach(Check.UNSUPPORTED, (h, other) -> h.setCell(other, number, number, 1, divisor),
                    INTS, WINDOW, RECORD, ITEMS, LOST);
                leaves(Check.ABSENT, h -> h.setCell(NONE, number, number, 1, divisor));
                leavesEach(Check.OUTSIDE, (h, row) -> h.setCell(GRID, row, number, 1, divisor), OUTSIDE_THREE);
            }
        }
    }

    private void setCellDivisor() {
        for (int row = 0; row < 3; row++) {
            int r = row;
            leavesEach(Check.DIVISION, (h, column) -> h.setCell(GRID, r, column, 1, 0), 0, 1, 2, -1, MAX, MIN);
            leaves(Check.DIVISION, h -> h.setCell(GRID, r, 0, 0, 0));
            leaves(Check.DIVISION, h -> h.setCell(GRID, r, 0, MIN, 0));
        }
    }

    private void setCellStorage() {
        for (int divisor : new int[] {1, -1, MIN}) {
            leavesEach(Check.ABSENT, (h, column) -> h.setCell(GRID, LOST_ROW, column, 1, divisor), 0, 1, 2, -1, MAX, MIN);
            leavesEach(Check.OUTSIDE, (h, column) -> h.setCell(GRID, 1, column, 1, divisor), OUTSIDE_TWO);
        }
        TypedHall hall = new TypedHall();
        hall.grid(0, 1, 0);
        check.refuses(Check.OUTSIDE, () -> hall.setCell(0, 0, 0, 1, 1));
    }

    private void refers() {
        for (int from = 0; from < 8; from++) {
            TypedHall hall = furnished();
            int f = from;
            hall.window(WINDOW, ITEMS, 1);
            hall.refer(WINDOW, 0, f);
            check.answers(10, () -> hall.fetch(NONE, ITEMS, 0));
            hall.fetch(NONE, ITEMS, 1);
            check.says(true, () -> f == NONE ? hall.copy(NONE, -1) : hall.copy(NONE, f));
        }
        TypedHall hall = furnished();
        hall.refer(ITEMS, 0, NONE);
        check.answers(-1, () -> hall.fetch(INTS, ITEMS, 0));
        // What the register holds later is another thing.
        hall.refer(ITEMS, 1, GRID);
        hall.record(GRID);
        check.answers(9, () -> hall.fetch(INTS, ITEMS, 1));
        leavesEach(Check.ARGUMENT, (h, from) -> h.refer(ITEMS, 0, from), -1, 8, MAX, MIN);
    }

    private void referUnsupported() {
        for (int index : new int[] {0, 9, -1, MIN}) {
            leavesEach(Check.UNSUPPORTED, (h, other) -> h.refer(other, index, INTS), INTS, WINDOW, GRID, RECORD, LOST);
        }
        TypedHall hall = new TypedHall();
        for (int sort = 0; sort <= 7; sort++) {
            hall.make(0, sort, 1);
            check.refuses(Check.UNSUPPORTED, () -> hall.refer(0, 0, 0));
        }
    }

    private void referRefused() {
        leavesEach(Check.OUTSIDE, (h, index) -> h.refer(ITEMS, index, INTS), OUTSIDE_TWO);
        TypedHall hall = furnished();
        hall.window(WINDOW, ITEMS, 1);
        check.refuses(Check.OUTSIDE, () -> hall.refer(WINDOW, 1, INTS));
        check.refuses(Check.OUTSIDE, () -> hall.refer(WINDOW, -2, INTS));
        hall.resize(ITEMS, 0);
        check.refuses(Check.OUTSIDE, () -> hall.refer(ITEMS, 0, INTS));
        hall.lose(ITEMS, 0);
        for (int index : new int[] {0, 2, -1, MAX, MIN}) {
            check.refuses(Check.ABSENT, () -> hall.refer(ITEMS, index, INTS));
            check.refuses(Check.ABSENT, () -> hall.refer(WINDOW, index, INTS));
        }
    }

    private void fetches() {
        for (int to = 0; to < 8; to++) {
            TypedHall hall = furnished();
            int t = to;
            hall.fetch(t, ITEMS, 0);
            // Register 4 holds that record too, unless it is the one that is written.
            check.says(true, () -> hall.copy(t, RECORD));
            check.answers(90, () -> hall.total(t));
        }
        TypedHall hall = furnished();
        hall.fetch(INTS, ITEMS, 1);
        check.refuses(Check.ABSENT, () -> hall.size(INTS));
        hall.refer(ITEMS, 1, ITEMS);
        hall.fetch(INTS, ITEMS, 1);
        check.says(true, () -> hall.copy(INTS, ITEMS));
        hall.fetch(ITEMS, ITEMS, 0);
        check.says(true, () -> hall.copy(ITEMS, RECORD));
    }

    private void fetchAnswers() {
        int[] sorts = {-1, 4, 4, 9, 10, 10, 8, 5};
        for (int from = 0; from < 8; from++) {
            TypedHall hall = furnished();
            int due = sorts[from];
            hall.refer(ITEMS, 1, from);
            check.answers(due, () -> hall.fetch(NONE, ITEMS, 1));
            check.answers(due, () -> hall.fetch(ITEMS, ITEMS, 1));
        }
        TypedHall hall = new TypedHall();
        hall.make(0, 8, 24);
        for (int sort = 0; sort <= 8; sort++) {
            int due = sort;
            hall.make(1, sort, 0);
            hall.refer(0, 23, 1);
            check.answers(due, () -> hall.fetch(2, 0, 23));
            hall.lose(1, 0);
            check.answers(due, () -> hall.fetch(2, 0, 23));
        }
    }

    private void fetchRefused() {
        leavesEach(Check.ABSENT, (h, index) -> h.fetch(INTS, NONE, index), 0, -1, MAX, MIN);
        for (int index : new int[] {0, 9, -1, MIN}) {
            leavesEach(Check.UNSUPPORTED, (h, other) -> h.fetch(other, other, index), INTS, WINDOW, GRID, RECORD, LOST);
        }
        leavesEach(Check.OUTSIDE, (h, index) -> h.fetch(INTS, ITEMS, index), OUTSIDE_TWO);
        leavesEach(Check.OUTSIDE, (h, index) -> h.fetch(ITEMS, ITEMS, index), OUTSIDE_TWO);
        TypedHall hall = furnished();
        hall.window(WINDOW, ITEMS, 1);
        check.refuses(Check.OUTSIDE, () -> hall.fetch(INTS, WINDOW, 1));
        hall.lose(ITEMS, 0);
        for (int index : new int[] {0, 2, -1, MAX, MIN}) {
            check.refuses(Check.ABSENT, () -> hall.fetch(INTS, ITEMS, index));
            check.refuses(Check.ABSENT, () -> hall.fetch(INTS, WINDOW, index));
        }
        check.answers(3, () -> hall.size(INTS));
    }
}
