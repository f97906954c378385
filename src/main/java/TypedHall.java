import java.util.Arrays;

/** A hall of typed stores, held by eight registers; ../shared/DOC.md tells its promises. */
public final class TypedHall {
    private static final int REGISTERS = 8;
    private static final int NO_REGISTER = -1;

    private static final int MOST_ELEMENTS = 24;
    private static final int MOST_ROWS = 6;
    private static final int MOST_COLUMNS = 4;
    private static final int MOST_WINDOWS_BELOW = 5;
    private static final int MOST_NUMBERS_ADDED = 20;

    private static final int NO_SORT = -1;
    private static final int BITS = 0;
    private static final int BYTES = 1;
    private static final int SHORTS = 2;
    private static final int CHARS = 3;
    private static final int INTS = 4;
    private static final int LONGS = 5;
    private static final int FLOATS = 6;
    private static final int DOUBLES = 7;
    private static final int ITEMS = 8;
    private static final int GRID = 9;
    private static final int RECORD = 10;

    private static final int SUM = 0;
    private static final int DIFFERENCE = 1;
    private static final int PRODUCT = 2;
    private static final int QUOTIENT = 3;
    private static final int REMAINDER = 4;

    private static final int[] NO_ELEMENTS = {};

    private final Item[] held = new Item[REGISTERS];
    private int made = 0;

    public TypedHall() {
    }

    public int make(int register, int sort, int size)
            throws IllegalArgumentException, java.lang.NegativeArraySizeException {
        requireRegister(register);
        requireArgument(sort >= BITS && sort <= ITEMS);
        requireArgument(size <= MOST_ELEMENTS);
        requireSize(size);
        return holdNew(register, new VectorItem(sort, size));
    }

    public int grid(int register, int rows, int columns)
            throws IllegalArgumentException, java.lang.NegativeArraySizeException {
        requireRegister(register);
        requireArgument(rows <= MOST_ROWS);
        requireArgument(columns <= MOST_COLUMNS);
        requireSize(rows);
        requireSize(columns);
        return holdNew(register, new GridItem(rows, columns));
    }

    public int record(int register) throws IllegalArgumentException {
        requireRegister(register);
        return holdNew(register, new RecordItem());
    }

    public int window(int register, int base, int offset)
            throws IllegalArgumentException, java.lang.NullPointerException,
            UnsupportedOperationException, IllegalStateException {
        requireRegister(register);
        requireRegister(base);
        Item below = itemIn(base);
        requireSupported(below.ground() != null);
        if (below.windows() > MOST_WINDOWS_BELOW) {
            throw new IllegalStateException();
        }
        int shift = below.shift() + offset;
        return holdNew(register, new WindowItem(below.ground(), shift, below.windows() + 1));
    }

    public boolean copy(int register, int from) throws IllegalArgumentException {
        requireRegister(register);
        requireArgument(from >= NO_REGISTER && from < REGISTERS);
        Item item = from == NO_REGISTER ? null : held[from];
        boolean heldBefore = held[register] == item;
        held[register] = item;
        return heldBefore;
    }

    public int lose(int register, int row)
            throws IllegalArgumentException, java.lang.NullPointerException,
            UnsupportedOperationException, java.lang.ArrayIndexOutOfBoundsException {
        requireRegister(register);
        Item item = itemIn(register);
        if (item instanceof GridItem grid) {
            return loseRow(grid, row);
        }
        return loseStorage(vectorOf(item));
    }

    public int resize(int register, int size)
            throws IllegalArgumentException, java.lang.NullPointerException,
            UnsupportedOperationException, java.lang.NegativeArraySizeException {
        requireRegister(register);
        requireArgument(size <= MOST_ELEMENTS);
        VectorItem vector = vectorOf(itemIn(register));
        requireSize(size);
        requirePresent(!vector.isLost());
        return vector.changeLength(size);
    }

    public int size(int register)
            throws IllegalArgumentException, java.lang.NullPointerException,
            UnsupportedOperationException {
        requireRegister(register);
        Item item = itemIn(register);
        if (item instanceof GridItem grid) {
            return grid.rows.length;
        }
        VectorItem ground = item.ground();
        requireSupported(ground != null);
        requirePresent(!ground.isLost());
        return ground.length() - item.shift();
    }

    public long take(int register, int index)
            throws IllegalArgumentException, java.lang.NullPointerException,
            UnsupportedOperationException, java.lang.ArrayIndexOutOfBoundsException {
        requireRegister(register);
        Item item = itemIn(register);
        requireSupported(item.sort() <= DOUBLES);
        return takeElement(item, index);
    }

    public long put(int register, int index, long value)
            throws IllegalArgumentException, java.lang.NullPointerException,
            UnsupportedOperationException, java.lang.ArrayIndexOutOfBoundsException {
        requireRegister(register);
        Item item = itemIn(register);
        requireSupported(item.sort() <= DOUBLES);
        return putElement(item, index, value);
    }

    public int cell(int register, int row, int column)
            throws IllegalArgumentException, UnsupportedOperationException,
            java.lang.NullPointerException, java.lang.ArrayIndexOutOfBoundsException {
        requireRegister(register);
        GridItem grid = gridIn(register);
        requireIndex(row, grid.rows.length);
        requireCell(grid.rows[row], column);
        return grid.rows[row][column];
    }

    public void setCell(int register, int row, int column, int value, int divisor)
            throws IllegalArgumentException, UnsupportedOperationException,
            java.lang.NullPointerException, java.lang.ArrayIndexOutOfBoundsException,
            ArithmeticException {
        requireRegister(register);
        GridItem grid = gridIn(register);
        requireIndex(row, grid.rows.length);
        requireDivisor(divisor);
        requireCell(grid.rows[row], column);
        grid.rows[row][column] = value / divisor;
    }

    public void refer(int register, int index, int from)
            throws IllegalArgumentException, java.lang.NullPointerException,
            UnsupportedOperationException, java.lang.ArrayIndexOutOfBoundsException {
        requireRegister(register);
        requireRegister(from);
        Item item = itemIn(register);
        requireSupported(item.sort() == ITEMS);
        int place = placeOf(item, index);
        item.ground().items[place] = held[from];
    }

    public int fetch(int to, int register, int index)
            throws IllegalArgumentException, java.lang.NullPointerException,
            UnsupportedOperationException, java.lang.ArrayIndexOutOfBoundsException {
        requireRegister(to);
        requireRegister(register);
        Item item = itemIn(register);
        requireSupported(item.sort() == ITEMS);
        int place = placeOf(item, index);
        Item fetched = item.ground().items[place];
        held[to] = fetched;
        return fetched == null ? NO_SORT : fetched.sort();
    }

    public void link(int register, int to)
            throws IllegalArgumentException, UnsupportedOperationException,
            java.lang.NullPointerException {
        requireRegister(register);
        requireRegister(to);
        // The other register comes first: its wrong item counts before this one's NONE.
        RecordItem next = recordOrNone(to);
        recordIn(register).next = next;
    }

    public boolean follow(int to, int register)
            throws IllegalArgumentException, UnsupportedOperationException,
            java.lang.NullPointerException {
        requireRegister(to);
        requireRegister(register);
        RecordItem next = recordIn(register).next;
        held[to] = next;
        return next == null;
    }

    public long exchange(int register, long value)
            throws IllegalArgumentException, UnsupportedOperationException,
            java.lang.NullPointerException {
        requireRegister(register);
        RecordItem node = recordIn(register);
        long before = node.number;
        node.number = value;
        return before;
    }

    public long total(int register)
            throws IllegalArgumentException, UnsupportedOperationException,
            java.lang.NullPointerException {
        requireRegister(register);
        RecordItem node = recordIn(register);
        long sum = 0;
        for (int added = 0; added < MOST_NUMBERS_ADDED && node != null; added++) {
            sum += node.number;
            node = node.next;
        }
        return sum;
    }

    public long combine(int operation, int register, int index, int other, int at)
            throws IllegalArgumentException, java.lang.NullPointerException,
            UnsupportedOperationException, java.lang.ArrayIndexOutOfBoundsException,
            ArithmeticException {
        requireArgument(operation >= SUM && operation <= REMAINDER);
        requireRegister(register);
        requireRegister(other);
        Item first = itemIn(register);
        Item second = itemIn(other);
        requireSupported(first.sort() <= LONGS && second.sort() <= LONGS);
        long left = takeElement(first, index);
        long right = takeElement(second, at);
        long result = reckon(operation, left, right);
        boolean withInts = first.sort() < LONGS && second.sort() < LONGS;
        return putElement(first, index, withInts ? (int) result : result);
    }

    public int move(int register, int index, int other, int at, int n)
            throws IllegalArgumentException, java.lang.NullPointerException,
            UnsupportedOperationException, java.lang.ArrayIndexOutOfBoundsException {
        requireRegister(register);
        requireRegister(other);
        requireArgument(n >= 0 && n <= MOST_ELEMENTS);
        Item target = itemIn(register);
        Item source = itemIn(other);
        requireSupported(target.sort() <= DOUBLES && source.sort() <= DOUBLES);
        for (int done = 0; done < n; done++) {
            long value = takeElement(source, at + done);
            putElement(target, index + done, value);
        }
        return n;
    }

    private int holdNew(int register, Item item) {
        held[register] = item;
        made++;
        return made;
    }

    private Item itemIn(int register) {
        Item item = held[register];
        requirePresent(item != null);
        return item;
    }

    private static VectorItem vectorOf(Item item) {
        VectorItem vector = item instanceof VectorItem found ? found : null;
        requireSupported(vector != null);
        return vector;
    }

    // Grids and records are asked for in this order: another item counts before NONE.
    private GridItem gridIn(int register) {
        Item item = held[register];
        GridItem grid = item instanceof GridItem found ? found : null;
        requireSupported(item == null || grid != null);
        requirePresent(grid != null);
        return grid;
    }

    private RecordItem recordIn(int register) {
        RecordItem node = recordOrNone(register);
        requirePresent(node != null);
        return node;
    }

    private RecordItem recordOrNone(int register) {
        Item item = held[register];
        RecordItem node = item instanceof RecordItem found ? found : null;
        requireSupported(item == null || node != null);
        return node;
    }

    private static int loseRow(GridItem grid, int row) {
        requireIndex(row, grid.rows.length);
        requirePresent(grid.rows[row] != null);
        int length = grid.rows[row].length;
        grid.rows[row] = null;
        return length;
    }

    private static int loseStorage(VectorItem vector) {
        requirePresent(!vector.isLost());
        int length = vector.length();
        vector.dropStorage();
        return length;
    }

    // Only for items whose sort is at most that of doubles: their ground has numbers.
    private static long takeElement(Item item, int index) {
        int place = placeOf(item, index);
        return item.ground().numbers[place];
    }

    private static long putElement(Item item, int index, long value) {
        int place = placeOf(item, index);
        VectorItem ground = item.ground();
        ground.numbers[place] = fitted(ground.sort, value);
        return ground.numbers[place];
    }

    /** Where an element of a vector or window stands in the storage, once that and it are there. */
    private static int placeOf(Item item, int index) {
        VectorItem ground = item.ground();
        int place = item.shift() + index;
        requirePresent(!ground.isLost());
        requireIndex(place, ground.length());
        return place;
    }

    /** What an element of a sort is, taken again, when a value was put into it. */
    private static long fitted(int sort, long value) {
        switch (sort) {
            case BITS:
                return value != 0 ? 1 : 0;
            case BYTES:
                return (byte) value;
            case SHORTS:
                return (short) value;
            case CHARS:
                return (char) value;
            case INTS:
                return (int) value;
            case FLOATS:
                return (long) (float) value;
            case DOUBLES:
                return (long) (double) value;
            default:
                return value;
        }
    }

    private static long reckon(int operation, long left, long right) {
        switch (operation) {
            case SUM:
                return left + right;
            case DIFFERENCE:
                return left - right;
            case PRODUCT:
                return left * right;
            case QUOTIENT:
                requireDivisor(right);
                return left / right;
            default:
                requireDivisor(right);
                return left % right;
        }
    }

    private static void requireRegister(int register) {
        requireArgument(register >= 0 && register < REGISTERS);
    }

    private static void requireArgument(boolean inRange) {
        if (!inRange) {
            throw new IllegalArgumentException();
        }
    }

    private static void requireSupported(boolean supported) {
        if (!supported) {
            throw new UnsupportedOperationException();
        }
    }

    private static void requireDivisor(long divisor) {
        if (divisor == 0) {
            throw new ArithmeticException();
        }
    }

    private static void requireCell(int[] row, int column) {
        requirePresent(row != null);
        requireIndex(column, row.length);
    }

    // The document makes answers of three refusals that no throw statement of the language's
    // rule 6 can give. Each stands here once, as a step that the machine refuses by itself;
    // everywhere else references, indices and sizes are looked at before they are used.

    /** NullPointerException: there is no item, or no storage. */
    private static void requirePresent(boolean present) {
        if (!present) {
            int[] absent = null;
            int refused = absent.length;
        }
    }

    /** ArrayIndexOutOfBoundsException: there is no element, row or column of this number. */
    private static void requireIndex(int index, int length) {
        if (index < 0 || index >= length) {
            int refused = NO_ELEMENTS[index];
        }
    }

    /** NegativeArraySizeException: a size is below 0. */
    private static void requireSize(int size) {
        if (size < 0) {
            int[] refused = new int[size];
        }
    }

    private abstract static class Item {
        abstract int sort();

        /** The vector that a vector or window stands on at last; other items have none. */
        VectorItem ground() {
            return null;
        }

        /** What is added to an element's number to find it in the ground. */
        int shift() {
            return 0;
        }

        /** How many windows lie one on another from this one down to the ground. */
        int windows() {
            return 0;
        }
    }

    private static final class VectorItem extends Item {
        private final int sort;
        // Numbers get into an element only as longs, and are seen only as the long that is taken
        // again: so that long is kept, for all sorts of numbers alike. Both rows are null when lost.
        private long[] numbers;
        private Item[] items;

        VectorItem(int sort, int size) {
            this.sort = sort;
            if (sort == ITEMS) {
                items = new Item[size];
            } else {
                numbers = new long[size];
            }
        }

        @Override
        int sort() {
            return sort;
        }

        @Override
        VectorItem ground() {
            return this;
        }

        boolean isLost() {
            return numbers == null && items == null;
        }

        int length() {
            if (numbers != null) {
                return numbers.length;
            }
            return items != null ? items.length : 0;
        }

        void dropStorage() {
            numbers = null;
            items = null;
        }

        /** Answers how many elements stayed. */
        int changeLength(int size) {
            int kept = Math.min(length(), size);
            if (numbers != null) {
                numbers = Arrays.copyOf(numbers, size);
            } else if (items != null) {
                items = firstItems(kept, size);
            }
            return kept;
        }

        private Item[] firstItems(int kept, int size) {
            Item[] changed = new Item[size];
            for (int i = 0; i < kept; i++) {
                changed[i] = items[i];
            }
            return changed;
        }
    }

    private static final class WindowItem extends Item {
        // A base never changes, so what lies between the window and its ground is summed up here.
        private final VectorItem ground;
        private final int shift;
        private final int windows;

        WindowItem(VectorItem ground, int shift, int windows) {
            this.ground = ground;
            this.shift = shift;
            this.windows = windows;
        }

        @Override
        int sort() {
            return ground.sort;
        }

        @Override
        VectorItem ground() {
            return ground;
        }

        @Override
        int shift() {
            return shift;
        }

        @Override
        int windows() {
            return windows;
        }
    }

    private static final class GridItem extends Item {
        // A row that lost its storage is null.
        private final int[][] rows;

        GridItem(int rowCount, int columnCount) {
            rows = new int[rowCount][columnCount];
        }

        @Override
        int sort() {
            return GRID;
        }
    }

    private static final class RecordItem extends Item {
        private long number = 0;
        private RecordItem next = null;

        @Override
        int sort() {
            return RECORD;
        }
    }
}
