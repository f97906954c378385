/** Promises 1 to 9: what makes items, holds them, and gives or takes their storage. */
final class StoresBoundaries extends Boundaries {
    StoresBoundaries(Sentences sentences) {
        super(sentences);
    }

    @Override
    void run() {
        sentences.promise(1, "makes an object in the state that the terms give.", this::newObject);
        makeAndGridAndRecord();
        windowAndCopy();
        loseAndResize();
        sentences.promise(9, "How many elements a vector has,", this::sizeOfVector);
        sentences.promise(9, "or rows a grid;", this::sizeOfGrid);
        sentences.promise(9, "of a window what its base answers, less the offset (wrapping).", this::sizeOfWindow);
        sentences.promise(9, "NullPointerException: NONE.", () -> leaves(Check.ABSENT, h -> h.size(NONE)));
        sentences.promise(9, "UnsupportedOperationException: a record.",
            () -> leavesEach(Check.UNSUPPORTED, (h, other) -> h.size(other), RECORD, LINKED));
        sentences.promise(9, "NullPointerException, too: the storage of the vector is lost.", this::sizeOfLost);
    }

    private void makeAndGridAndRecord() {
        sentences.promise(2, "The register holds a new vector of a sort (0 .. 8) with size (up to 24) elements;",
            this::makeHolds);
        sentences.promise(2, "answers how many items were made so far, with this one.", this::makeCounts);
        sentences.promise(2, "NegativeArraySizeException: size is below 0.", this::makeNegative);
        sentences.promise(3, "The register holds a new grid with rows (up to 6) of columns (up to 4);", this::gridHolds);
        sentences.promise(3, "answers likewise.", this::gridCounts);
        sentences.promise(3, "NegativeArraySizeException: one of them is below 0.", this::gridNegative);
        sentences.promise(4, "The register holds a new record;", this::recordHolds);
        sentences.promise(4, "answers likewise.", this::recordCounts);
    }

    private void windowAndCopy() {
        sentences.promise(5, "The register holds a new window on what the register base holds"
            + " (it may be the same register);", this::windowHolds);
        sentences.promise(5, "answers likewise.", this::windowCounts);
        sentences.promise(5, "NullPointerException: that is NONE.",
            () -> leavesEach(Check.ABSENT, (h, register) -> h.window(register, NONE, 0), 0, 1, 2, 3, 4, 5, 6, 7));
        sentences.promise(5, "UnsupportedOperationException: it is a grid or a record.",
            () -> leavesEach(Check.UNSUPPORTED, (h, base) -> h.window(NONE, base, 0), GRID, RECORD, LINKED));
        sentences.promise(5, "IllegalStateException: it is a window that stands on five others, one on another.",
            this::windowsOnFive);
        sentences.promise(6, "The register holds what the register from (-1: none) holds, or NONE;", this::copyHolds);
        sentences.promise(6, "answers whether it did so before.", this::copyAnswers);
    }

    private void loseAndResize() {
        sentences.promise(7, "A vector loses its storage (whatever row is),", this::loseVector);
        sentences.promise(7, "or a grid that of a row;", this::loseRow);
        sentences.promise(7, "answers how many elements that had.", this::loseAnswers);
        sentences.promise(7, "NullPointerException: NONE.",
            () -> leavesEach(Check.ABSENT, (h, row) -> h.lose(NONE, row), 0, -1, MAX, MIN));
        sentences.promise(7, "UnsupportedOperationException: a window or a record.", this::loseUnsupported);
        sentences.promise(7, "ArrayIndexOutOfBoundsException: the grid has no such row.", this::loseNoRow);
        sentences.promise(7, "NullPointerException, too: that storage is lost already.", this::loseTwice);
        sentences.promise(8, "A vector gets a new storage of size (up to 24) elements,", this::resizeStorage);
        sentences.promise(8, "in which as many of the old ones, from 0 on, as there is room for stand where they stood;",
            this::resizeKeeps);
        sentences.promise(8, "answers how many.", this::resizeAnswers);
        sentences.promise(8, "NullPointerException: NONE.",
            () -> leavesEach(Check.ABSENT, (h, size) -> h.resize(NONE, size), 0, 24, -1, MIN));
        sentences.promise(8, "UnsupportedOperationException: no vector.", this::resizeUnsupported);
        sentences.promise(8, "NegativeArraySizeException: size is below 0.", this::resizeNegative);
        sentences.promise(8, "NullPointerException, too: its storage is lost.",
            () -> leavesEach(Check.ABSENT, (h, size) -> h.resize(LOST, size), 0, 2, 24));
    }

    private void newObject() {
        TypedHall used = furnished();
        TypedHall hall = new TypedHall();
        for (int register = 0; register < 8; register++) {
            int r = register;
            check.refuses(Check.ABSENT, () -> hall.size(r));
            check.says(true, () -> hall.copy(r, -1));
        }
        check.answers(1, () -> hall.record(0));
        // Two halls share nothing.
        check.refuses(Check.ABSENT, () -> used.size(NONE));
        check.answers(8, () -> used.record(0));
        check.answers(2, () -> hall.record(0));
    }

    private void makeHolds() {
        for (int sort = 0; sort <= 8; sort++) {
            for (int size : new int[] {0, 1, 23, 24}) {
                TypedHall hall = furnished();
                int due = sort;
                int register = sort % ITEMS;
                hall.make(register, due, size);
                check.answers(size, () -> hall.size(register));
                hall.refer(ITEMS, 0, register);
                check.answers(due, () -> hall.fetch(NONE, ITEMS, 0));
            }
        }
        leavesEach(Check.ARGUMENT, (h, sort) -> h.make(INTS, sort, 1), -1, 9, MAX, MIN);
        leavesEach(Check.ARGUMENT, (h, size) -> h.make(INTS, 4, size), 25, 26, MAX);
    }

    private void makeCounts() {
        TypedHall hall = new TypedHall();
        check.answers(1, () -> hall.make(0, 8, 24));
        check.answers(2, () -> hall.make(0, 0, 0));
        check.refuses(Check.ARGUMENT, () -> hall.make(0, 0, 25));
        check.refuses(Check.ARGUMENT, () -> hall.make(0, 9, 1));
        check.refuses(Check.NEGATIVE, () -> hall.make(0, 0, -1));
        check.answers(3, () -> hall.make(7, 0, 0));
        // What is only held elsewhere, lost, or given a new storage is not made.
        hall.copy(1, 0);
        hall.copy(0, -1);
        hall.resize(7, 5);
        hall.lose(7, 0);
        check.answers(4, () -> hall.make(7, 0, 0));
        check.answers(8, () -> furnished().make(0, 0, 0));
    }

    private void makeNegative() {
        for (int sort = 0; sort <= 8; sort++) {
            int s = sort;
            leavesEach(Check.NEGATIVE, (h, size) -> h.make(INTS, s, size), -1, -24, MIN);
        }
    }

    private void gridHolds() {
        for (int rows = 0; rows <= 6; rows++) {
            for (int columns = 0; columns <= 4; columns++) {
                TypedHall hall = furnished();
                int rowCount = rows;
                int columnCount = columns;
                hall.grid(INTS, rows, columns);
                check.answers(rows, () -> hall.size(INTS));
                check.refuses(Check.OUTSIDE, () -> hall.cell(INTS, rowCount, 0));
                for (int row = 0; row < rows; row++) {
                    int r = row;
                    check.refuses(Check.OUTSIDE, () -> hall.cell(INTS, r, columnCount));
                    check.answers(columnCount, () -> hall.lose(INTS, r));
                }
            }
        }
        leavesEach(Check.ARGUMENT, (h, rows) -> h.grid(INTS, rows, 1), 7, 8, MAX);
        leavesEach(Check.ARGUMENT, (h, columns) -> h.grid(INTS, 1, columns), 5, 6, MAX);
    }

    private void gridCounts() {
        TypedHall hall = new TypedHall();
        check.answers(1, () -> hall.grid(0, 6, 4));
        check.refuses(Check.ARGUMENT, () -> hall.grid(0, 7, 4));
        check.refuses(Check.NEGATIVE, () -> hall.grid(0, 6, -1));
        check.answers(2, () -> hall.grid(7, 0, 0));
        check.answers(3, () -> hall.make(7, 4, 1));
        check.answers(4, () -> hall.grid(7, 1, 0));
    }

    private void gridNegative() {
        leavesEach(Check.NEGATIVE, (h, rows) -> h.grid(GRID, rows, 4), -1, -6, MIN);
        leavesEach(Check.NEGATIVE, (h, rows) -> h.grid(GRID, rows, 0), -1, -6, MIN);
        leavesEach(Check.NEGATIVE, (h, columns) -> h.grid(GRID, 6, columns), -1, -4, MIN);
        // There is no row to have a size, and yet the size is refused.
        leavesEach(Check.NEGATIVE, (h, columns) -> h.grid(GRID, 0, columns), -1, -4, MIN);
        leavesEach(Check.NEGATIVE, (h, both) -> h.grid(GRID, both, both), -1, MIN);
    }

    private void recordHolds() {
        for (int register = 0; register < 8; register++) {
            TypedHall hall = furnished();
            int r = register;
            hall.record(r);
            check.answers(0, () -> hall.exchange(r, 9));
            check.says(true, () -> hall.follow(r == 0 ? 1 : 0, r));
        }
        TypedHall hall = furnished();
        hall.copy(NONE, RECORD);
        hall.record(RECORD);
        check.answers(0, () -> hall.total(RECORD));
        check.answers(90, () -> hall.total(NONE));
    }

    private void recordCounts() {
        TypedHall hall = new TypedHall();
        check.answers(1, () -> hall.record(0));
        check.refuses(Check.ARGUMENT, () -> hall.record(8));
        check.refuses(Check.ARGUMENT, () -> hall.record(-1));
        check.answers(2, () -> hall.record(0));
        check.answers(3, () -> hall.grid(0, 1, 1));
        check.answers(4, () -> hall.record(0));
    }

    private void windowHolds() {
        for (int register = 0; register < 8; register++) {
            TypedHall hall = furnished();
            int r = register;
            hall.window(r, INTS, 1);
            check.answers(2, () -> hall.size(r));
            check.answers(11, () -> hall.take(r, 0));
            check.answers(10, () -> hall.take(r, -1));
        }
        TypedHall hall = furnished();
        hall.copy(NONE, INTS);
        hall.window(INTS, INTS, MIN);
        hall.window(INTS, INTS, MIN);
        hall.put(INTS, 1, 77);
        check.answers(77, () -> hall.take(NONE, 1));
        check.says(false, () -> hall.copy(NONE, INTS));
        // A base may have lost its storage, or be of sort 8.
        hall.window(LOST, LOST, 0);
        check.refuses(Check.ABSENT, () -> hall.take(LOST, 0));
        hall.window(LOST, ITEMS, 0);
        check.answers(10, () -> hall.fetch(NONE, LOST, 0));
    }

    private void windowCounts() {
        TypedHall hall = new TypedHall();
        hall.make(0, 4, 0);
        check.answers(2, () -> hall.window(0, 0, MAX));
        check.refuses(Check.ABSENT, () -> hall.window(0, 1, 0));
        check.answers(3, () -> hall.window(0, 0, MIN));
        check.answers(4, () -> hall.record(0));
        check.refuses(Check.UNSUPPORTED, () -> hall.window(0, 0, 0));
        check.answers(5, () -> hall.make(0, 8, 0));
        check.answers(6, () -> hall.window(1, 0, 0));
    }

    private void windowsOnFive() {
        for (int sort = 0; sort <= 8; sort++) {
            TypedHall hall = new TypedHall();
            hall.make(0, sort, 8);
            hall.copy(1, 0);
            for (int windows = 1; windows <= 6; windows++) {
                int due = windows + 1;
                check.answers(due, () -> hall.window(1, 1, 1));
                // The fifth one stands on four others, and bears one more.
                hall.copy(windows == 5 ? 2 : 3, 1);
            }
            for (int register : new int[] {0, 1, 4}) {
                check.refuses(Check.STATE, () -> hall.window(register, 1, 0));
            }
            check.answers(8, () -> hall.size(0));
            check.answers(2, () -> hall.size(1));
            check.refuses(Check.ABSENT, () -> hall.size(4));
            check.answers(8, () -> hall.window(4, 2, 0));
            check.refuses(Check.STATE, () -> hall.window(4, 4, 0));
            hall.lose(0, 0);
            check.refuses(Check.STATE, () -> hall.window(4, 4, 0));
            check.answers(9, () -> hall.window(4, 0, 0));
        }
    }

    private void copyHolds() {
        int[] totals = {0, 0, 0, 0, 90, 50};
        for (int from : new int[] {RECORD, LINKED}) {
            TypedHall hall = furnished();
            hall.copy(NONE, from);
            check.answers(totals[from], () -> hall.total(NONE));
            hall.exchange(NONE, 0);
            check.answers(totals[from] == 90 ? 50 : 0, () -> hall.total(from));
        }
        for (int register = 0; register < 8; register++) {
            TypedHall hall = furnished();
            int r = register;
            hall.copy(r, -1);
            check.refuses(Check.ABSENT, () -> hall.size(r));
            check.answers(8, () -> hall.record(r));
            hall.copy(r, NONE == r ? -1 : NONE);
            check.refuses(Check.ABSENT, () -> hall.size(r));
        }
        leavesEach(Check.ARGUMENT, (h, from) -> h.copy(INTS, from), -2, 8, MAX, MIN);
        leavesEach(Check.ARGUMENT, (h, register) -> h.copy(register, INTS), -1, 8, MAX, MIN);
        leavesEach(Check.ARGUMENT, (h, register) -> h.copy(register, -1), -1, 8, MAX, MIN);
    }

    private void copyAnswers() {
        TypedHall hall = furnished();
        for (int register = 0; register < 8; register++) {
            int r = register;
            check.says(true, () -> hall.copy(r, r));
        }
        check.says(true, () -> hall.copy(NONE, -1));
        check.says(false, () -> hall.copy(NONE, LINKED));
        check.says(true, () -> hall.copy(NONE, LINKED));
        check.says(true, () -> hall.copy(LINKED, NONE));
        check.says(false, () -> hall.copy(NONE, -1));
        check.says(true, () -> hall.copy(NONE, -1));
        // Alike is not the same.
        hall.make(0, 4, 0);
        hall.make(1, 4, 0);
        check.says(false, () -> hall.copy(0, 1));
        hall.window(0, 1, 0);
        hall.window(2, 1, 0);
        check.says(false, () -> hall.copy(0, 1));
        hall.window(0, 1, 0);
        check.says(false, () -> hall.copy(0, 2));
    }

    private void loseVector() {
        for (int sort = 0; sort <= 8; sort++) {
            for (int row : new int[] {0, 5, 24, -1, MAX, MIN}) {
                TypedHall hall = new TypedHall();
                hall.make(0, sort, 5);
                hall.copy(1, 0);
                hall.window(2, 0, 1);
                check.answers(5, () -> hall.lose(0, row));
                check.refuses(Check.ABSENT, () -> hall.size(0));
                check.refuses(Check.ABSENT, () -> hall.size(1));
                check.refuses(Check.ABSENT, () -> hall.size(2));
            }
        }
    }

    private void loseRow() {
        for (int row = 0; row < 6; row++) {
            TypedHall hall = new TypedHall();
            int lost = row;
            hall.grid(0, 6, 2);
            hall.lose(0, lost);
            check.answers(6, () -> hall.size(0));
            for (int other = 0; other < 6; other++) {
                int r = other;
                if (r == lost) {
                    check.refuses(Check.ABSENT, () -> hall.cell(0, r, 0));
                } else {
                    check.answers(0, () -> hall.cell(0, r, 0));
                }
            }
        }
    }

    private void loseAnswers() {
        TypedHall hall = new TypedHall();
        for (int size = 0; size <= 24; size++) {
            int due = size;
            hall.make(0, due % 9, due);
            check.answers(due, () -> hall.lose(0, 0));
        }
        for (int columns = 0; columns <= 4; columns++) {
            int due = columns;
            hall.grid(0, 6, due);
            check.answers(due, () -> hall.lose(0, 5));
            check.answers(due, () -> hall.lose(0, 0));
        }
        hall.make(0, 4, 3);
        hall.resize(0, 24);
        check.answers(24, () -> hall.lose(0, 0));
    }

    private void loseUnsupported() {
        leavesEach(Check.UNSUPPORTED, (h, row) -> h.lose(WINDOW, row), 0, -1, MAX, MIN);
        leavesEach(Check.UNSUPPORTED, (h, row) -> h.lose(RECORD, row), 0, -1, MAX, MIN);
        TypedHall hall = furnished();
        hall.lose(INTS, 0);
        check.refuses(Check.UNSUPPORTED, () -> hall.lose(WINDOW, 0));
    }

    private void loseNoRow() {
        leavesEach(Check.OUTSIDE, (h, row) -> h.lose(GRID, row), 3, -1, MAX, MIN);
        TypedHall hall = new TypedHall();
        hall.grid(0, 0, 4);
        check.refuses(Check.OUTSIDE, () -> hall.lose(0, 0));
        hall.grid(0, 6, 0);
        check.refuses(Check.OUTSIDE, () -> hall.lose(0, 6));
        check.answers(0, () -> hall.lose(0, 5));
    }

    private void loseTwice() {
        leavesEach(Check.ABSENT, (h, row) -> h.lose(LOST, row), 0, -1, MAX, MIN);
        leaves(Check.ABSENT, h -> h.lose(GRID, LOST_ROW));
        TypedHall hall = new TypedHall();
        hall.make(0, 8, 0);
        hall.grid(1, 1, 0);
        hall.lose(0, 0);
        hall.lose(1, 0);
        check.refuses(Check.ABSENT, () -> hall.lose(0, 0));
        check.refuses(Check.ABSENT, () -> hall.lose(1, 0));
    }

    private void resizeStorage() {
        for (int sort = 0; sort <= 8; sort++) {
            for (int size : new int[] {0, 1, 23, 24}) {
                TypedHall hall = new TypedHall();
                hall.make(0, sort, 5);
                hall.copy(1, 0);
                hall.window(2, 0, 1);
                hall.resize(0, size);
                check.answers(size, () -> hall.size(0));
                check.answers(size, () -> hall.size(1));
                check.answers(size - 1, () -> hall.size(2));
                check.answers(3, () -> hall.record(0));
            }
        }
        leavesEach(Check.ARGUMENT, (h, size) -> h.resize(INTS, size), 25, 26, MAX);
    }

    private void resizeKeeps() {
        for (int sort = 1; sort <= 7; sort++) {
            for (int size : new int[] {0, 1, 4, 5, 6, 24}) {
                TypedHall hall = new TypedHall();
                hall.make(0, sort, 5);
                for (int index = 0; index < 5; index++) {
                    hall.put(0, index, 100 + index);
                }
                hall.resize(0, size);
                for (int index = 0; index < size; index++) {
                    int i = index;
                    check.answers(i < 5 ? 100 + i : 0, () -> hall.take(0, i));
                }
                // What had no room is gone for good.
                hall.resize(0, 24);
                check.answers(size > 4 ? 104 : 0, () -> hall.take(0, 4));
            }
        }
        resizeKeepsItems();
    }

    private void resizeKeepsItems() {
        for (int size : new int[] {0, 1, 2, 3, 24}) {
            TypedHall hall = furnished();
            hall.refer(ITEMS, 1, GRID);
            hall.resize(ITEMS, size);
            int[] sorts = {10, 9};
            for (int index = 0; index < size; index++) {
                int i = index;
                check.answers(i < 2 ? sorts[i] : -1, () -> hall.fetch(NONE, ITEMS, i));
            }
            if (size > 0) {
                hall.fetch(NONE, ITEMS, 0);
                check.says(true, () -> hall.copy(NONE, RECORD));
            }
        }
    }

    private void resizeAnswers() {
        for (int sort = 0; sort <= 8; sort++) {
            TypedHall hall = new TypedHall();
            hall.make(0, sort, 24);
            int[][] dues = {{24, 24}, {5, 5}, {24, 5}, {24, 24}, {23, 23}, {0, 0}, {0, 0}, {24, 0}, {1, 1}, {1, 1}, {2, 1}};
            for (int[] due : dues) {
                check.answers(due[1], () -> hall.resize(0, due[0]));
            }
        }
    }

    private void resizeUnsupported() {
        for (int size : new int[] {0, 1, 24, -1, MIN}) {
            leavesEach(Check.UNSUPPORTED, (h, other) -> h.resize(other, size), WINDOW, GRID, RECORD);
        }
    }

    private void resizeNegative() {
        leavesEach(Check.NEGATIVE, (h, size) -> h.resize(INTS, size), -1, -24, MIN);
        leavesEach(Check.NEGATIVE, (h, size) -> h.resize(ITEMS, size), -1, -24, MIN);
        // Told before the lost storage is.
        leavesEach(Check.NEGATIVE, (h, size) -> h.resize(LOST, size), -1, -24, MIN);
    }

    private void sizeOfVector() {
        TypedHall hall = new TypedHall();
        for (int sort = 0; sort <= 8; sort++) {
            for (int size : new int[] {0, 1, 24}) {
                hall.make(0, sort, size);
                check.answers(size, () -> hall.size(0));
            }
        }
    }

    private void sizeOfGrid() {
        TypedHall hall = new TypedHall();
        for (int rows = 0; rows <= 6; rows++) {
            int due = rows;
            hall.grid(0, due, 4 - due % 5);
            check.answers(due, () -> hall.size(0));
            for (int row = 0; row < due; row++) {
                hall.lose(0, row);
            }
            check.answers(due, () -> hall.size(0));
        }
    }

    private void sizeOfWindow() {
        TypedHall hall = new TypedHall();
        hall.make(0, 8, 5);
        for (int offset : new int[] {0, 1, 5, 6, -1, MAX, MIN, MIN + 5, MIN + 6}) {
            hall.window(1, 0, offset);
            check.answers(5 - offset, () -> hall.size(1));
            hall.window(2, 1, MIN);
            check.answers(5 - offset - MIN, () -> hall.size(2));
            hall.window(2, 2, MIN);
            check.answers(5 - offset, () -> hall.size(2));
        }
        check.answers(MAX, () -> {
            hall.window(1, 0, MIN + 6);
            return hall.size(1);
        });
        check.answers(MIN, () -> {
            hall.window(1, 0, MIN + 5);
            return hall.size(1);
        });
    }

    private void sizeOfLost() {
        leaves(Check.ABSENT, h -> h.size(LOST));
        TypedHall hall = new TypedHall();
        hall.make(0, 4, 0);
        for (int register = 1; register <= 6; register++) {
            hall.window(register, register - 1, MAX);
        }
        hall.lose(0, 0);
        for (int register = 0; register <= 6; register++) {
            int r = register;
            check.refuses(Check.ABSENT, () -> hall.size(r));
        }
    }
}
