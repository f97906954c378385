/** Each promise of the document by itself: ordinary inputs, its edges, wrong inputs. */
public final class PromisesTest {
    private static final int MAX = Integer.MAX_VALUE;
    private static final int MIN = Integer.MIN_VALUE;
    private static final int[] WRONG_REGISTERS = {-1, 8, MAX, MIN};

    private static final Check check = new Check();

    public static void main(String[] args) {
        newObject();
        make();
        makeRefuses();
        grid();
        gridRefuses();
        record();
        window();
        windowRefuses();
        windowsOnWindows();
        copy();
        lose();
        loseRefuses();
        resize();
        resizeItems();
        resizeRefuses();
        size();
        take();
        takeRefuses();
        put();
        putRounds();
        putRefuses();
        cell();
        cellRefuses();
        setCell();
        setCellRefuses();
        refer();
        referRefuses();
        fetch();
        fetchRefuses();
        link();
        follow();
        exchange();
        total();
        combine();
        combineSorts();
        combineRefuses();
        combineOrder();
        move();
        moveOverlapping();
        moveStopsHalfway();
        moveRefuses();
        check.end();
    }

    // Promise 1

    private static void newObject() {
        TypedHall hall = new TypedHall();
        for (int r = 0; r < 8; r++) {
            int register = r;
            check.says(true, () -> hall.copy(register, -1));
            check.refuses(Check.ABSENT, () -> hall.size(register));
        }
        check.answers(1, () -> hall.record(0));
        check.answers(1, () -> new TypedHall().record(0));
    }

    // Promise 2

    private static void make() {
        TypedHall hall = new TypedHall();
        for (int sort = 0; sort <= 8; sort++) {
            int s = sort;
            check.answers(2 * sort + 1, () -> hall.make(0, s, 24));
            check.answers(24, () -> hall.size(0));
            check.answers(2 * sort + 2, () -> hall.make(7, s, 0));
            check.answers(0, () -> hall.size(7));
        }
        hall.make(3, 4, 2);
        check.answers(0, () -> hall.take(3, 0));
        check.answers(0, () -> hall.take(3, 1));
        hall.make(4, 8, 1);
        check.answers(-1, () -> hall.fetch(5, 4, 0));
    }

    private static void makeRefuses() {
        TypedHall hall = new TypedHall();
        for (int wrong : WRONG_REGISTERS) {
            check.refuses(Check.ARGUMENT, () -> hall.make(wrong, 0, -1));
        }
        check.refuses(Check.ARGUMENT, () -> hall.make(0, -1, -1));
        check.refuses(Check.ARGUMENT, () -> hall.make(0, 9, 0));
        check.refuses(Check.ARGUMENT, () -> hall.make(0, 0, 25));
        check.refuses(Check.ARGUMENT, () -> hall.make(0, 8, MAX));
        check.refuses(Check.NEGATIVE, () -> hall.make(0, 8, -1));
        check.refuses(Check.NEGATIVE, () -> hall.make(0, 0, MIN));
        check.says(true, () -> hall.copy(0, -1));
        check.answers(1, () -> hall.make(0, 0, 1));
    }

    // Promise 3

    private static void grid() {
        TypedHall hall = new TypedHall();
        check.answers(1, () -> hall.grid(0, 6, 4));
        check.answers(6, () -> hall.size(0));
        check.answers(0, () -> hall.cell(0, 5, 3));
        check.answers(2, () -> hall.grid(1, 0, 4));
        check.answers(0, () -> hall.size(1));
        check.answers(3, () -> hall.grid(1, 6, 0));
        check.answers(0, () -> hall.lose(1, 5));
        check.answers(4, () -> hall.grid(1, 0, 0));
    }

    private static void gridRefuses() {
        TypedHall hall = new TypedHall();
        for (int wrong : WRONG_REGISTERS) {
            check.refuses(Check.ARGUMENT, () -> hall.grid(wrong, -1, 1));
        }
        check.refuses(Check.ARGUMENT, () -> hall.grid(0, 7, -1));
        check.refuses(Check.ARGUMENT, () -> hall.grid(0, -1, 5));
        check.refuses(Check.NEGATIVE, () -> hall.grid(0, -1, 4));
        check.refuses(Check.NEGATIVE, () -> hall.grid(0, 6, -1));
        check.refuses(Check.NEGATIVE, () -> hall.grid(0, 0, MIN));
        check.says(true, () -> hall.copy(0, -1));
        check.answers(1, () -> hall.grid(0, 1, 1));
    }

    // Promise 4

    private static void record() {
        TypedHall hall = new TypedHall();
        for (int wrong : WRONG_REGISTERS) {
            check.refuses(Check.ARGUMENT, () -> hall.record(wrong));
        }
        check.answers(1, () -> hall.record(7));
        check.answers(2, () -> hall.record(7));
        check.answers(0, () -> hall.total(7));
        check.says(true, () -> hall.follow(0, 7));
    }

    // Promise 5

    private static void window() {
        TypedHall hall = new TypedHall();
        hall.make(0, 4, 4);
        check.answers(2, () -> hall.window(1, 0, 2));
        hall.put(1, 0, 20);
        hall.put(1, -2, -20);
        check.answers(20, () -> hall.take(0, 2));
        check.answers(-20, () -> hall.take(0, 0));
        check.refuses(Check.OUTSIDE, () -> hall.take(1, 2));
        check.refuses(Check.OUTSIDE, () -> hall.take(1, -3));
        check.answers(3, () -> hall.window(0, 0, -1));
        check.answers(20, () -> hall.take(0, 3));
        check.answers(5, () -> hall.size(0));
        check.answers(4, () -> hall.window(2, 1, MAX));
        check.answers(-20, () -> hall.take(2, MAX));
        check.answers(20, () -> hall.take(2, MIN + 1));
    }

    private static void windowRefuses() {
        TypedHall hall = new TypedHall();
        hall.grid(1, 1, 1);
        hall.record(2);
        for (int wrong : WRONG_REGISTERS) {
            check.refuses(Check.ARGUMENT, () -> hall.window(wrong, 0, 0));
            check.refuses(Check.ARGUMENT, () -> hall.window(0, wrong, 0));
        }
        check.refuses(Check.ABSENT, () -> hall.window(1, 0, 0));
        check.refuses(Check.UNSUPPORTED, () -> hall.window(0, 1, 0));
        check.refuses(Check.UNSUPPORTED, () -> hall.window(0, 2, 0));
        check.says(true, () -> hall.copy(0, -1));
        check.answers(3, () -> hall.record(0));
    }

    private static void windowsOnWindows() {
        TypedHall hall = new TypedHall();
        hall.make(0, 5, 24);
        hall.put(0, 6, 77);
        for (int made = 2; made <= 7; made++) {
            int due = made;
            check.answers(due, () -> hall.window(1, due == 2 ? 0 : 1, 1));
        }
        check.refuses(Check.STATE, () -> hall.window(2, 1, 1));
        check.answers(77, () -> hall.take(1, 0));
        check.answers(18, () -> hall.size(1));
        check.says(true, () -> hall.copy(2, -1));
        hall.lose(0, 0);
        check.answers(8, () -> hall.window(2, 0, 0));
        check.answers(9, () -> hall.window(2, 2, 0));
        check.refuses(Check.STATE, () -> hall.window(2, 1, 1));
    }

    // Promise 6

    private static void copy() {
        TypedHall hall = new TypedHall();
        for (int wrong : new int[] {-2, 8, MAX, MIN}) {
            check.refuses(Check.ARGUMENT, () -> hall.copy(0, wrong));
        }
        for (int wrong : WRONG_REGISTERS) {
            check.refuses(Check.ARGUMENT, () -> hall.copy(wrong, 0));
        }
        hall.make(0, 4, 1);
        check.says(false, () -> hall.copy(1, 0));
        check.says(true, () -> hall.copy(1, 0));
        check.says(true, () -> hall.copy(0, 0));
        hall.put(1, 0, 9);
        check.answers(9, () -> hall.take(0, 0));
        hall.make(2, 4, 1);
        hall.put(2, 0, 9);
        check.says(false, () -> hall.copy(2, 0));
        check.says(false, () -> hall.copy(1, -1));
        check.says(true, () -> hall.copy(1, -1));
        check.says(true, () -> hall.copy(1, 3));
        check.says(false, () -> hall.copy(0, 3));
        check.refuses(Check.ABSENT, () -> hall.take(0, 0));
    }

    // Promise 7

    private static void lose() {
        TypedHall hall = new TypedHall();
        for (int sort = 0; sort <= 8; sort++) {
            hall.make(0, sort, 5);
            check.answers(5, () -> hall.lose(0, MIN));
            check.refuses(Check.ABSENT, () -> hall.lose(0, 0));
            check.refuses(Check.ABSENT, () -> hall.size(0));
        }
        hall.make(0, 4, 0);
        check.answers(0, () -> hall.lose(0, 99));
        check.refuses(Check.ABSENT, () -> hall.lose(0, 99));
        hall.grid(1, 2, 3);
        hall.setCell(1, 0, 2, 8, 1);
        check.answers(3, () -> hall.lose(1, 1));
        check.answers(2, () -> hall.size(1));
        check.answers(8, () -> hall.cell(1, 0, 2));
        check.refuses(Check.ABSENT, () -> hall.cell(1, 1, 0));
    }

    private static void loseRefuses() {
        TypedHall hall = new TypedHall();
        for (int wrong : WRONG_REGISTERS) {
            check.refuses(Check.ARGUMENT, () -> hall.lose(wrong, 0));
        }
        hall.make(1, 4, 3);
        hall.window(2, 1, 0);
        hall.record(3);
        hall.grid(4, 2, 2);
        check.refuses(Check.ABSENT, () -> hall.lose(0, 0));
        check.refuses(Check.UNSUPPORTED, () -> hall.lose(2, 0));
        check.refuses(Check.UNSUPPORTED, () -> hall.lose(3, 0));
        check.refuses(Check.OUTSIDE, () -> hall.lose(4, 2));
        check.refuses(Check.OUTSIDE, () -> hall.lose(4, -1));
        hall.lose(4, 1);
        check.refuses(Check.ABSENT, () -> hall.lose(4, 1));
        check.refuses(Check.OUTSIDE, () -> hall.lose(4, 2));
        check.answers(2, () -> hall.lose(4, 0));
        check.answers(3, () -> hall.size(1));
    }

    // Promise 8

    private static void resize() {
        TypedHall hall = new TypedHall();
        hall.make(0, 4, 3);
        hall.window(1, 0, 1);
        hall.put(0, 0, 10);
        hall.put(0, 1, 11);
        hall.put(0, 2, 12);
        check.answers(2, () -> hall.resize(0, 2));
        check.refuses(Check.OUTSIDE, () -> hall.take(0, 2));
        check.answers(2, () -> hall.resize(0, 24));
        check.answers(24, () -> hall.size(0));
        check.answers(23, () -> hall.size(1));
        check.answers(10, () -> hall.take(0, 0));
        check.answers(11, () -> hall.take(1, 0));
        check.answers(0, () -> hall.take(0, 2));
        check.answers(24, () -> hall.resize(0, 24));
        check.answers(0, () -> hall.resize(0, 0));
        check.answers(0, () -> hall.resize(0, 1));
        check.answers(0, () -> hall.take(0, 0));
    }

    private static void resizeItems() {
        TypedHall hall = new TypedHall();
        hall.make(0, 8, 2);
        hall.record(1);
        hall.refer(0, 0, 1);
        hall.refer(0, 1, 0);
        check.answers(1, () -> hall.resize(0, 1));
        check.answers(1, () -> hall.resize(0, 3));
        check.answers(10, () -> hall.fetch(2, 0, 0));
        check.answers(-1, () -> hall.fetch(2, 0, 1));
        check.answers(3, () -> hall.size(0));
    }

    private static void resizeRefuses() {
        TypedHall hall = new TypedHall();
        for (int wrong : WRONG_REGISTERS) {
            check.refuses(Check.ARGUMENT, () -> hall.resize(wrong, 0));
        }
        check.refuses(Check.ARGUMENT, () -> hall.resize(0, 25));
        check.refuses(Check.ABSENT, () -> hall.resize(0, -1));
        hall.make(0, 4, 3);
        hall.window(1, 0, 0);
        hall.grid(2, 1, 1);
        hall.record(3);
        check.refuses(Check.UNSUPPORTED, () -> hall.resize(1, -1));
        check.refuses(Check.UNSUPPORTED, () -> hall.resize(2, -1));
        check.refuses(Check.UNSUPPORTED, () -> hall.resize(3, 1));
        check.refuses(Check.NEGATIVE, () -> hall.resize(0, -1));
        check.refuses(Check.NEGATIVE, () -> hall.resize(0, MIN));
        check.answers(3, () -> hall.size(0));
        hall.lose(0, 0);
        check.refuses(Check.NEGATIVE, () -> hall.resize(0, -1));
        check.refuses(Check.ABSENT, () -> hall.resize(0, 3));
        check.refuses(Check.ARGUMENT, () -> hall.resize(0, 25));
    }

    // Promise 9

    private static void size() {
        TypedHall hall = new TypedHall();
        for (int wrong : WRONG_REGISTERS) {
            check.refuses(Check.ARGUMENT, () -> hall.size(wrong));
        }
        check.refuses(Check.ABSENT, () -> hall.size(0));
        hall.make(0, 8, 5);
        check.answers(5, () -> hall.size(0));
        hall.window(1, 0, 9);
        check.answers(-4, () -> hall.size(1));
        hall.window(2, 1, -10);
        check.answers(6, () -> hall.size(2));
        hall.window(3, 0, MIN);
        check.answers(MIN + 5, () -> hall.size(3));
        hall.window(3, 3, MIN);
        check.answers(5, () -> hall.size(3));
        hall.grid(4, 2, 4);
        hall.lose(4, 0);
        hall.lose(4, 1);
        check.answers(2, () -> hall.size(4));
        hall.record(5);
        check.refuses(Check.UNSUPPORTED, () -> hall.size(5));
        hall.lose(0, 0);
        check.refuses(Check.ABSENT, () -> hall.size(0));
        check.refuses(Check.ABSENT, () -> hall.size(2));
    }

    // Promise 10

    private static void take() {
        TypedHall hall = new TypedHall();
        for (int sort = 0; sort <= 7; sort++) {
            hall.make(0, sort, 24);
            hall.put(0, 23, 1);
            check.answers(0, () -> hall.take(0, 0));
            check.answers(1, () -> hall.take(0, 23));
            hall.window(1, 0, 23);
            check.answers(1, () -> hall.take(1, 0));
            check.answers(0, () -> hall.take(1, -23));
        }
    }

    private static void takeRefuses() {
        TypedHall hall = new TypedHall();
        for (int wrong : WRONG_REGISTERS) {
            check.refuses(Check.ARGUMENT, () -> hall.take(wrong, 0));
        }
        check.refuses(Check.ABSENT, () -> hall.take(0, 0));
        hall.make(0, 8, 1);
        check.refuses(Check.UNSUPPORTED, () -> hall.take(0, 0));
        check.refuses(Check.UNSUPPORTED, () -> hall.take(0, 5));
        hall.window(1, 0, 0);
        check.refuses(Check.UNSUPPORTED, () -> hall.take(1, 0));
        hall.lose(0, 0);
        check.refuses(Check.UNSUPPORTED, () -> hall.take(0, 0));
        hall.grid(2, 1, 1);
        check.refuses(Check.UNSUPPORTED, () -> hall.take(2, 0));
        hall.record(3);
        check.refuses(Check.UNSUPPORTED, () -> hall.take(3, 0));
        hall.make(4, 7, 0);
        check.refuses(Check.OUTSIDE, () -> hall.take(4, 0));
        check.refuses(Check.OUTSIDE, () -> hall.take(4, -1));
        check.refuses(Check.OUTSIDE, () -> hall.take(4, MAX));
        check.refuses(Check.OUTSIDE, () -> hall.take(4, MIN));
        hall.lose(4, 0);
        check.refuses(Check.ABSENT, () -> hall.take(4, MIN));
    }

    // Promise 11

    private static void put() {
        TypedHall hall = new TypedHall();
        for (int sort = 0; sort <= 7; sort++) {
            hall.make(sort, sort, 2);
        }
        long[][] dues = {
            // value, then what each sort makes of it
            {0, 0, 0, 0, 0, 0, 0, 0, 0},
            {1, 1, 1, 1, 1, 1, 1, 1, 1},
            {-1, 1, -1, -1, 65535, -1, -1, -1, -1},
            {128, 1, -128, 128, 128, 128, 128, 128, 128},
            {-129, 1, 127, -129, 65407, -129, -129, -129, -129},
            {32768, 1, 0, -32768, 32768, 32768, 32768, 32768, 32768},
            {65536, 1, 0, 0, 0, 65536, 65536, 65536, 65536},
            {1L << 31, 1, 0, 0, 0, MIN, 1L << 31, 1L << 31, 1L << 31},
            {1L << 32, 1, 0, 0, 0, 0, 1L << 32, 1L << 32, 1L << 32},
            {Long.MIN_VALUE, 1, 0, 0, 0, 0, Long.MIN_VALUE, Long.MIN_VALUE, Long.MIN_VALUE},
            {Long.MAX_VALUE, 1, -1, -1, 65535, -1, Long.MAX_VALUE, Long.MAX_VALUE, Long.MAX_VALUE},
        };
        for (long[] due : dues) {
            for (int sort = 0; sort <= 7; sort++) {
                int s = sort;
                check.answers(due[s + 1], () -> hall.put(s, 1, due[0]));
                check.answers(due[s + 1], () -> hall.take(s, 1));
                check.answers(0, () -> hall.take(s, 0));
            }
        }
    }

    private static void putRounds() {
        TypedHall hall = new TypedHall();
        hall.make(6, 6, 1);
        hall.make(7, 7, 1);
        check.answers(16777216, () -> hall.put(6, 0, 16777216));
        check.answers(16777216, () -> hall.put(6, 0, 16777217));
        check.answers(16777218, () -> hall.put(6, 0, 16777218));
        check.answers(16777220, () -> hall.put(6, 0, 16777219));
        check.answers(-16777216, () -> hall.put(6, 0, -16777217));
        check.answers(-16777220, () -> hall.put(6, 0, -16777219));
        check.answers(9007199254740992L, () -> hall.put(7, 0, 9007199254740992L));
        check.answers(9007199254740992L, () -> hall.put(7, 0, 9007199254740993L));
        check.answers(9007199254740996L, () -> hall.put(7, 0, 9007199254740995L));
        check.answers(-9007199254740996L, () -> hall.put(7, 0, -9007199254740995L));
        check.answers(9007199254740992L, () -> hall.put(6, 0, 9007199254740993L));
        // A rounding by way of a double would answer the lower float here.
        check.answers(1152921642045800448L, () -> hall.put(6, 0, 1152921573326323713L));
        check.answers(9223371487098961920L, () -> hall.put(6, 0, 9223371487098961921L));
        check.answers(Long.MAX_VALUE, () -> hall.put(6, 0, 9223371761976868864L));
        check.answers(9223372036854774784L, () -> hall.put(7, 0, 9223372036854774785L));
        check.answers(Long.MAX_VALUE, () -> hall.put(7, 0, 9223372036854775296L));
    }

    private static void putRefuses() {
        TypedHall hall = new TypedHall();
        for (int wrong : WRONG_REGISTERS) {
            check.refuses(Check.ARGUMENT, () -> hall.put(wrong, 0, 0));
        }
        check.refuses(Check.ABSENT, () -> hall.put(0, 0, 0));
        hall.make(0, 8, 1);
        hall.grid(1, 1, 1);
        hall.record(2);
        check.refuses(Check.UNSUPPORTED, () -> hall.put(0, 0, 0));
        check.refuses(Check.UNSUPPORTED, () -> hall.put(1, 0, 0));
        check.refuses(Check.UNSUPPORTED, () -> hall.put(2, 0, 0));
        hall.make(3, 0, 2);
        hall.window(4, 3, 1);
        check.refuses(Check.OUTSIDE, () -> hall.put(3, 2, 1));
        check.refuses(Check.OUTSIDE, () -> hall.put(3, -1, 1));
        check.refuses(Check.OUTSIDE, () -> hall.put(4, 1, 1));
        check.answers(0, () -> hall.take(3, 0) + hall.take(3, 1));
        hall.lose(3, 0);
        check.refuses(Check.ABSENT, () -> hall.put(3, 2, 1));
        check.refuses(Check.ABSENT, () -> hall.put(4, 1, 1));
    }

    // Promise 12

    private static void cell() {
        TypedHall hall = new TypedHall();
        hall.grid(0, 6, 4);
        for (int row = 0; row < 6; row++) {
            for (int column = 0; column < 4; column++) {
                hall.setCell(0, row, column, 10 * row + column + 1, 1);
            }
        }
        hall.copy(1, 0);
        for (int row = 0; row < 6; row++) {
            for (int column = 0; column < 4; column++) {
                int r = row;
                int c = column;
                check.answers(10 * r + c + 1, () -> hall.cell(1, r, c));
            }
        }
    }

    private static void cellRefuses() {
        TypedHall hall = new TypedHall();
        for (int wrong : WRONG_REGISTERS) {
            check.refuses(Check.ARGUMENT, () -> hall.cell(wrong, 0, 0));
        }
        check.refuses(Check.ABSENT, () -> hall.cell(0, 0, 0));
        hall.make(0, 4, 1);
        hall.window(1, 0, 0);
        hall.record(2);
        for (int other = 0; other < 3; other++) {
            int register = other;
            check.refuses(Check.UNSUPPORTED, () -> hall.cell(register, -1, 0));
        }
        hall.grid(3, 2, 3);
        check.refuses(Check.OUTSIDE, () -> hall.cell(3, 2, 0));
        check.refuses(Check.OUTSIDE, () -> hall.cell(3, -1, 0));
        check.refuses(Check.OUTSIDE, () -> hall.cell(3, 0, 3));
        check.refuses(Check.OUTSIDE, () -> hall.cell(3, 0, MIN));
        hall.lose(3, 0);
        check.refuses(Check.ABSENT, () -> hall.cell(3, 0, 3));
        check.refuses(Check.OUTSIDE, () -> hall.cell(3, 2, 0));
        check.answers(0, () -> hall.cell(3, 1, 2));
    }

    // Promise 13

    private static void setCell() {
        TypedHall hall = new TypedHall();
        hall.grid(0, 1, 2);
        int[][] dues = {{7, 2, 3}, {-7, 2, -3}, {7, -2, -3}, {-7, -2, 3}, {MIN, -1, MIN}, {MIN, 1, MIN},
            {MAX, -1, -MAX}, {0, -5, 0}, {1, MIN, 0}, {MIN, MIN, 1}};
        for (int[] due : dues) {
            hall.setCell(0, 0, 1, due[0], due[1]);
            check.answers(due[2], () -> hall.cell(0, 0, 1));
            check.answers(0, () -> hall.cell(0, 0, 0));
        }
    }

    private static void setCellRefuses() {
        TypedHall hall = new TypedHall();
        for (int wrong : WRONG_REGISTERS) {
            check.refuses(Check.ARGUMENT, () -> hall.setCell(wrong, 0, 0, 1, 0));
        }
        check.refuses(Check.ABSENT, () -> hall.setCell(0, 0, 0, 1, 0));
        hall.make(0, 4, 1);
        hall.window(1, 0, 0);
        hall.record(2);
        for (int other = 0; other < 3; other++) {
            int register = other;
            check.refuses(Check.UNSUPPORTED, () -> hall.setCell(register, 0, 0, 1, 0));
        }
        hall.grid(3, 2, 2);
        hall.setCell(3, 0, 0, 5, 1);
        check.refuses(Check.OUTSIDE, () -> hall.setCell(3, 2, 0, 1, 0));
        check.refuses(Check.OUTSIDE, () -> hall.setCell(3, -1, 0, 1, 0));
        check.refuses(Check.DIVISION, () -> hall.setCell(3, 0, 0, 1, 0));
        check.refuses(Check.DIVISION, () -> hall.setCell(3, 0, 2, 1, 0));
        check.refuses(Check.OUTSIDE, () -> hall.setCell(3, 0, 2, 1, 1));
        check.answers(5, () -> hall.cell(3, 0, 0));
        hall.lose(3, 0);
        check.refuses(Check.DIVISION, () -> hall.setCell(3, 0, 0, 1, 0));
        check.refuses(Check.ABSENT, () -> hall.setCell(3, 0, 2, 1, 1));
    }

    // Promise 14

    private static void refer() {
        TypedHall hall = new TypedHall();
        hall.make(0, 8, 3);
        hall.record(1);
        hall.window(2, 0, 1);
        hall.refer(2, 0, 1);
        check.answers(10, () -> hall.fetch(3, 0, 1));
        check.says(true, () -> hall.copy(3, 1));
        hall.refer(0, 2, 0);
        check.answers(8, () -> hall.fetch(3, 0, 2));
        check.says(true, () -> hall.copy(3, 0));
        hall.refer(0, 1, 7);
        check.answers(-1, () -> hall.fetch(3, 0, 1));
    }

    private static void referRefuses() {
        TypedHall hall = new TypedHall();
        for (int wrong : WRONG_REGISTERS) {
            check.refuses(Check.ARGUMENT, () -> hall.refer(wrong, 0, 0));
            check.refuses(Check.ARGUMENT, () -> hall.refer(0, 0, wrong));
        }
        check.refuses(Check.ABSENT, () -> hall.refer(0, 0, 0));
        hall.make(0, 7, 1);
        hall.window(1, 0, 0);
        hall.grid(2, 1, 1);
        hall.record(3);
        for (int other = 0; other < 4; other++) {
            int register = other;
            check.refuses(Check.UNSUPPORTED, () -> hall.refer(register, 9, 0));
        }
        hall.make(4, 8, 2);
        check.refuses(Check.OUTSIDE, () -> hall.refer(4, 2, 0));
        check.refuses(Check.OUTSIDE, () -> hall.refer(4, -1, 0));
        hall.lose(4, 0);
        check.refuses(Check.ABSENT, () -> hall.refer(4, 2, 0));
    }

    // Promise 15

    private static void fetch() {
        TypedHall hall = new TypedHall();
        hall.make(0, 8, 4);
        for (int sort = 0; sort <= 8; sort++) {
            int s = sort;
            hall.make(1, s, 1);
            hall.refer(0, 0, 1);
            check.answers(s, () -> hall.fetch(2, 0, 0));
            check.says(true, () -> hall.copy(2, 1));
            hall.window(1, 1, 5);
            hall.window(1, 1, 5);
            hall.refer(0, 1, 1);
            check.answers(s, () -> hall.fetch(2, 0, 1));
        }
        hall.grid(1, 1, 1);
        hall.refer(0, 2, 1);
        check.answers(9, () -> hall.fetch(2, 0, 2));
        check.answers(-1, () -> hall.fetch(2, 0, 3));
        check.refuses(Check.ABSENT, () -> hall.size(2));
        check.answers(9, () -> hall.fetch(0, 0, 2));
        check.answers(1, () -> hall.size(0));
    }

    private static void fetchRefuses() {
        TypedHall hall = new TypedHall();
        for (int wrong : WRONG_REGISTERS) {
            check.refuses(Check.ARGUMENT, () -> hall.fetch(wrong, 0, 0));
            check.refuses(Check.ARGUMENT, () -> hall.fetch(0, wrong, 0));
        }
        check.refuses(Check.ABSENT, () -> hall.fetch(1, 0, 0));
        hall.make(0, 7, 1);
        hall.window(1, 0, 0);
        hall.grid(2, 1, 1);
        hall.record(3);
        for (int other = 0; other < 4; other++) {
            int register = other;
            check.refuses(Check.UNSUPPORTED, () -> hall.fetch(7, register, 9));
        }
        hall.make(4, 8, 2);
        check.refuses(Check.OUTSIDE, () -> hall.fetch(3, 4, 2));
        check.refuses(Check.OUTSIDE, () -> hall.fetch(3, 4, MIN));
        hall.lose(4, 0);
        check.refuses(Check.ABSENT, () -> hall.fetch(3, 4, 2));
        check.answers(0, () -> hall.exchange(3, 1));
    }

    // Promise 16

    private static void link() {
        TypedHall hall = new TypedHall();
        for (int wrong : WRONG_REGISTERS) {
            check.refuses(Check.ARGUMENT, () -> hall.link(wrong, 0));
            check.refuses(Check.ARGUMENT, () -> hall.link(0, wrong));
        }
        check.refuses(Check.ABSENT, () -> hall.link(0, 1));
        hall.record(0);
        hall.record(1);
        hall.link(0, 1);
        hall.make(2, 4, 1);
        hall.window(3, 2, 0);
        hall.grid(4, 1, 1);
        for (int other = 2; other < 5; other++) {
            int register = other;
            check.refuses(Check.UNSUPPORTED, () -> hall.link(0, register));
            check.refuses(Check.UNSUPPORTED, () -> hall.link(register, 0));
            check.refuses(Check.UNSUPPORTED, () -> hall.link(register, 7));
            check.refuses(Check.UNSUPPORTED, () -> hall.link(7, register));
        }
        check.refuses(Check.ABSENT, () -> hall.link(7, 0));
        check.says(false, () -> hall.follow(5, 0));
        check.says(true, () -> hall.copy(5, 1));
        hall.link(0, 0);
        hall.follow(5, 0);
        check.says(true, () -> hall.copy(5, 0));
        hall.link(0, 7);
        check.says(true, () -> hall.follow(5, 0));
    }

    // Promise 17

    private static void follow() {
        TypedHall hall = new TypedHall();
        for (int wrong : WRONG_REGISTERS) {
            check.refuses(Check.ARGUMENT, () -> hall.follow(wrong, 0));
            check.refuses(Check.ARGUMENT, () -> hall.follow(0, wrong));
        }
        hall.record(0);
        hall.record(1);
        hall.link(0, 1);
        check.refuses(Check.ABSENT, () -> hall.follow(0, 7));
        hall.make(2, 4, 1);
        hall.window(3, 2, 0);
        hall.grid(4, 1, 1);
        for (int other = 2; other < 5; other++) {
            int register = other;
            check.refuses(Check.UNSUPPORTED, () -> hall.follow(0, register));
        }
        check.says(false, () -> hall.follow(0, 0));
        check.says(true, () -> hall.copy(0, 1));
        check.says(true, () -> hall.follow(0, 0));
        check.refuses(Check.ABSENT, () -> hall.follow(1, 0));
        check.says(true, () -> hall.copy(0, -1));
    }

    // Promise 18

    private static void exchange() {
        TypedHall hall = new TypedHall();
        for (int wrong : WRONG_REGISTERS) {
            check.refuses(Check.ARGUMENT, () -> hall.exchange(wrong, 0));
        }
        check.refuses(Check.ABSENT, () -> hall.exchange(0, 0));
        hall.make(1, 4, 1);
        hall.window(2, 1, 0);
        hall.grid(3, 1, 1);
        for (int other = 1; other < 4; other++) {
            int register = other;
            check.refuses(Check.UNSUPPORTED, () -> hall.exchange(register, 0));
        }
        hall.record(0);
        check.answers(0, () -> hall.exchange(0, Long.MIN_VALUE));
        check.answers(Long.MIN_VALUE, () -> hall.exchange(0, 1L << 40));
        check.answers(1L << 40, () -> hall.exchange(0, -1));
    }

    // Promise 19

    private static void total() {
        TypedHall hall = new TypedHall();
        for (int wrong : WRONG_REGISTERS) {
            check.refuses(Check.ARGUMENT, () -> hall.total(wrong));
        }
        check.refuses(Check.ABSENT, () -> hall.total(0));
        hall.make(1, 4, 1);
        hall.window(2, 1, 0);
        hall.grid(3, 1, 1);
        for (int other = 1; other < 4; other++) {
            int register = other;
            check.refuses(Check.UNSUPPORTED, () -> hall.total(register));
        }
        // A chain whose newest record has the highest bit: 25 bits, of which 20 count.
        for (int made = 0; made < 25; made++) {
            hall.record(5);
            hall.exchange(5, 1L << made);
            hall.link(5, 4);
            hall.copy(4, 5);
            long all = (1L << made + 1) - 1;
            long beyond = made >= 20 ? (1L << made - 19) - 1 : 0;
            check.answers(all - beyond, () -> hall.total(5));
        }
        hall.record(6);
        hall.exchange(6, Long.MAX_VALUE);
        hall.link(6, 6);
        check.answers(-20, () -> hall.total(6));
    }

    // Promise 20

    private static long combined(int sort, int otherSort, int operation, long left, long right) {
        TypedHall hall = new TypedHall();
        hall.make(0, sort, 2);
        hall.make(1, otherSort, 3);
        hall.put(0, 1, left);
        hall.put(1, 2, right);
        long answer = hall.combine(operation, 0, 1, 1, 2);
        check.answers(answer, () -> hall.take(0, 1));
        check.answers(0, () -> hall.take(0, 0));
        return answer;
    }

    private static void combine() {
        for (int sort = 1; sort <= 5; sort++) {
            int s = sort;
            check.answers(4, () -> combined(s, s, 0, 7, -3));
            check.answers(5, () -> combined(s, s, 1, 7, 2));
            check.answers(14, () -> combined(s, s, 2, 7, 2));
            check.answers(3, () -> combined(s, s, 3, 7, 2));
            check.answers(1, () -> combined(s, s, 4, 7, 2));
        }
        for (int sort : new int[] {1, 2, 4, 5}) {
            check.answers(-3, () -> combined(sort, sort, 3, -7, 2));
            check.answers(-1, () -> combined(sort, sort, 4, -7, 2));
            check.answers(-3, () -> combined(sort, sort, 3, 7, -2));
            check.answers(1, () -> combined(sort, sort, 4, 7, -2));
        }
        check.answers(MIN, () -> combined(4, 4, 0, MAX, 1));
        check.answers(MAX, () -> combined(4, 4, 1, MIN, 1));
        check.answers(0, () -> combined(4, 4, 2, 65536, 65536));
        check.answers(MIN, () -> combined(4, 4, 3, MIN, -1));
        check.answers(0, () -> combined(4, 4, 4, MIN, -1));
        check.answers(Long.MIN_VALUE, () -> combined(5, 5, 0, Long.MAX_VALUE, 1));
        check.answers(Long.MIN_VALUE, () -> combined(5, 5, 3, Long.MIN_VALUE, -1));
        check.answers(0, () -> combined(5, 5, 4, Long.MIN_VALUE, -1));
        check.answers(0, () -> combined(5, 5, 2, 1L << 32, 1L << 32));
    }

    private static void combineSorts() {
        check.answers(1, () -> combined(0, 0, 0, 1, 1));
        check.answers(1, () -> combined(0, 0, 1, 0, 1));
        check.answers(0, () -> combined(0, 4, 0, 1, -1));
        check.answers(0, () -> combined(0, 4, 3, 1, 2));
        check.answers(1, () -> combined(0, 5, 0, 1, 1L << 40));
        check.answers(1, () -> combined(0, 5, 0, 0, 1L << 40));
        check.answers(-128, () -> combined(1, 1, 0, 127, 1));
        check.answers(-32768, () -> combined(2, 1, 0, 32767, 1));
        check.answers(65535, () -> combined(3, 1, 1, 0, 1));
        check.answers(1, () -> combined(3, 3, 2, 65535, 65535));
        check.answers(1L << 31, () -> combined(5, 4, 1, 0, MIN));
        check.answers((1L << 31) - 1 << 2, () -> combined(5, 1, 2, MAX, 4));
        check.answers(1, () -> combined(4, 5, 0, 1, 1L << 32));
        check.answers(0, () -> combined(4, 5, 3, MAX, 1L << 32));
        check.answers(MAX, () -> combined(4, 5, 4, MAX, 1L << 32));
        TypedHall hall = new TypedHall();
        hall.make(0, 4, 4);
        hall.put(0, 3, 6);
        hall.window(1, 0, 2);
        check.answers(36, () -> hall.combine(2, 1, 1, 0, 3));
        check.answers(36, () -> hall.combine(0, 1, 0, 1, 1));
        check.answers(0, () -> hall.combine(1, 0, 3, 0, 3));
        check.answers(36, () -> hall.take(0, 2));
    }

    private static void combineRefuses() {
        TypedHall hall = new TypedHall();
        for (int wrong : WRONG_REGISTERS) {
            check.refuses(Check.ARGUMENT, () -> hall.combine(0, wrong, 0, 0, 0));
            check.refuses(Check.ARGUMENT, () -> hall.combine(0, 0, 0, wrong, 0));
        }
        for (int wrong : new int[] {-1, 5, MAX, MIN}) {
            check.refuses(Check.ARGUMENT, () -> hall.combine(wrong, 0, 0, 0, 0));
        }
        hall.make(1, 5, 1);
        hall.make(2, 6, 1);
        hall.make(3, 7, 1);
        hall.make(4, 8, 1);
        hall.grid(5, 1, 1);
        hall.record(6);
        hall.window(7, 2, 0);
        check.refuses(Check.ABSENT, () -> hall.combine(0, 0, 0, 0, 0));
        check.refuses(Check.ABSENT, () -> hall.combine(0, 0, 0, 1, 0));
        check.refuses(Check.ABSENT, () -> hall.combine(0, 1, 0, 0, 0));
        for (int other = 2; other < 8; other++) {
            int register = other;
            check.refuses(Check.ABSENT, () -> hall.combine(0, register, 0, 0, 0));
            check.refuses(Check.ABSENT, () -> hall.combine(0, 0, 0, register, 0));
            check.refuses(Check.UNSUPPORTED, () -> hall.combine(3, register, 9, 1, 0));
            check.refuses(Check.UNSUPPORTED, () -> hall.combine(3, 1, 9, register, 0));
        }
    }

    private static void combineOrder() {
        TypedHall hall = new TypedHall();
        hall.make(0, 4, 2);
        hall.make(1, 5, 2);
        hall.make(2, 4, 2);
        hall.put(0, 0, 8);
        hall.lose(2, 0);
        for (int operation = 0; operation <= 4; operation++) {
            int o = operation;
            check.refuses(Check.OUTSIDE, () -> hall.combine(o, 0, 2, 2, 0));
            check.refuses(Check.OUTSIDE, () -> hall.combine(o, 0, -1, 1, 0));
            check.refuses(Check.ABSENT, () -> hall.combine(o, 2, 9, 0, 9));
            check.refuses(Check.ABSENT, () -> hall.combine(o, 0, 0, 2, 9));
            check.refuses(Check.OUTSIDE, () -> hall.combine(o, 0, 0, 1, 2));
        }
        check.refuses(Check.DIVISION, () -> hall.combine(3, 0, 0, 0, 1));
        check.refuses(Check.DIVISION, () -> hall.combine(4, 0, 0, 0, 1));
        check.refuses(Check.DIVISION, () -> hall.combine(3, 0, 0, 1, 1));
        check.refuses(Check.DIVISION, () -> hall.combine(4, 1, 0, 1, 1));
        check.answers(8, () -> hall.take(0, 0));
        check.answers(8, () -> hall.combine(0, 0, 0, 0, 1));
    }

    // Promise 21

    private static void move() {
        TypedHall hall = new TypedHall();
        for (int sort = 0; sort <= 7; sort++) {
            int s = sort;
            hall.make(0, 5, 24);
            hall.make(1, s, 24);
            for (int i = 0; i < 24; i++) {
                hall.put(0, i, -100L * i);
            }
            check.answers(24, () -> hall.move(1, 0, 0, 0, 24));
            hall.make(2, s, 1);
            for (int i = 0; i < 24; i++) {
                int at = i;
                check.answers(hall.put(2, 0, -100L * i), () -> hall.take(1, at));
            }
        }
        hall.make(1, 7, 4);
        check.answers(2, () -> hall.move(1, 1, 0, 22, 2));
        check.answers(0, () -> hall.take(1, 0));
        check.answers(-2200, () -> hall.take(1, 1));
        check.answers(-2300, () -> hall.take(1, 2));
        check.answers(0, () -> hall.take(1, 3));
        check.answers(0, () -> hall.move(1, 99, 0, -99, 0));
        hall.lose(0, 0);
        check.answers(0, () -> hall.move(1, 0, 0, 0, 0));
        // Numbers that wrap from the largest int to the least one.
        hall.make(3, 4, 4);
        hall.window(4, 3, MIN + 2);
        hall.put(3, 1, 51);
        hall.put(3, 2, 52);
        check.answers(2, () -> hall.move(3, 2, 4, MAX, 2));
        check.answers(51, () -> hall.take(3, 2));
        check.answers(51, () -> hall.take(3, 3));
        hall.put(3, 3, 53);
        check.answers(2, () -> hall.move(4, MAX, 3, 2, 2));
        check.answers(51, () -> hall.take(3, 1));
        check.answers(53, () -> hall.take(3, 2));
    }

    private static void moveOverlapping() {
        TypedHall hall = new TypedHall();
        hall.make(0, 4, 4);
        hall.put(0, 0, 1);
        hall.put(0, 1, 2);
        hall.put(0, 2, 3);
        check.answers(3, () -> hall.move(0, 1, 0, 0, 3));
        for (int i = 0; i < 4; i++) {
            int at = i;
            check.answers(1, () -> hall.take(0, at));
        }
        hall.window(1, 0, 1);
        hall.put(0, 3, 9);
        check.answers(3, () -> hall.move(0, 0, 1, 0, 3));
        check.answers(1, () -> hall.take(0, 1));
        check.answers(9, () -> hall.take(0, 2));
        check.answers(9, () -> hall.take(0, 3));
    }

    private static void moveStopsHalfway() {
        TypedHall hall = new TypedHall();
        hall.make(0, 4, 2);
        hall.make(1, 4, 3);
        hall.put(0, 0, 5);
        hall.put(0, 1, 6);
        check.refuses(Check.OUTSIDE, () -> hall.move(1, 0, 0, 0, 3));
        check.answers(5, () -> hall.take(1, 0));
        check.answers(6, () -> hall.take(1, 1));
        hall.put(1, 2, 7);
        check.refuses(Check.OUTSIDE, () -> hall.move(0, 1, 1, 2, 2));
        check.answers(7, () -> hall.take(0, 1));
        check.refuses(Check.OUTSIDE, () -> hall.move(0, 0, 1, 1, 3));
        check.answers(6, () -> hall.take(0, 0));
        check.answers(7, () -> hall.take(0, 1));
    }

    private static void moveRefuses() {
        TypedHall hall = new TypedHall();
        for (int wrong : WRONG_REGISTERS) {
            check.refuses(Check.ARGUMENT, () -> hall.move(wrong, 0, 0, 0, 1));
            check.refuses(Check.ARGUMENT, () -> hall.move(0, 0, wrong, 0, 1));
        }
        for (int wrong : new int[] {-1, 25, MAX, MIN}) {
            check.refuses(Check.ARGUMENT, () -> hall.move(0, 0, 0, 0, wrong));
        }
        hall.make(1, 7, 2);
        hall.make(2, 8, 2);
        hall.grid(3, 1, 1);
        hall.record(4);
        hall.window(5, 2, 0);
        check.refuses(Check.ABSENT, () -> hall.move(0, 0, 0, 0, 0));
        for (int other = 2; other < 6; other++) {
            int register = other;
            check.refuses(Check.ABSENT, () -> hall.move(register, 0, 0, 0, 0));
            check.refuses(Check.ABSENT, () -> hall.move(0, 0, register, 0, 0));
            check.refuses(Check.UNSUPPORTED, () -> hall.move(register, 0, 1, 0, 0));
            check.refuses(Check.UNSUPPORTED, () -> hall.move(1, 0, register, 0, 0));
        }
        hall.make(6, 4, 2);
        hall.lose(6, 0);
        check.refuses(Check.ABSENT, () -> hall.move(1, 9, 6, 9, 1));
        check.refuses(Check.ABSENT, () -> hall.move(6, 9, 1, 0, 1));
        check.refuses(Check.OUTSIDE, () -> hall.move(6, 0, 1, 2, 1));
        check.refuses(Check.OUTSIDE, () -> hall.move(1, 2, 1, 0, 1));
        check.refuses(Check.OUTSIDE, () -> hall.move(1, 0, 1, -1, 1));
        check.answers(0, () -> hall.take(1, 0));
    }
}
