import java.lang.reflect.Array;

/**
 * The document once more, written another way: storages are Java's own typed arrays, windows keep
 * their base, and Java's own refusals are left to come in the order in which the machine finds them.
 */
final class Model {
    static final class Vector {
        int sort;
        Object storage;
    }

    static final class Window {
        Object base;
        int offset;
    }

    static final class Grid {
        int[][] rows;
    }

    static final class Node {
        long number;
        Node link;
    }

    private static final Class<?>[] ELEMENTS = {boolean.class, byte.class, short.class, char.class,
        int.class, long.class, float.class, double.class, Object.class};

    private final Object[] held = new Object[8];
    private int made = 0;

    int make(int register, int sort, int size) {
        range(register, 0, 7);
        range(sort, 0, 8);
        range(size, Integer.MIN_VALUE, 24);
        Vector vector = new Vector();
        vector.sort = sort;
        vector.storage = Array.newInstance(ELEMENTS[sort], size);
        held[register] = vector;
        return ++made;
    }

    int grid(int register, int rows, int columns) {
        range(register, 0, 7);
        range(rows, Integer.MIN_VALUE, 6);
        range(columns, Integer.MIN_VALUE, 4);
        Grid grid = new Grid();
        grid.rows = new int[rows][columns];
        held[register] = grid;
        return ++made;
    }

    int record(int register) {
        range(register, 0, 7);
        held[register] = new Node();
        return ++made;
    }

    int window(int register, int base, int offset) {
        range(register, 0, 7);
        range(base, 0, 7);
        Object below = there(held[base]);
        supported(below instanceof Vector || below instanceof Window);
        int others = -1;
        for (Object b = below; b instanceof Window w; b = w.base) {
            others++;
        }
        if (others >= 5) {
            throw new IllegalStateException();
        }
        Window window = new Window();
        window.base = below;
        window.offset = offset;
        held[register] = window;
        return ++made;
    }

    boolean copy(int register, int from) {
        range(register, 0, 7);
        range(from, -1, 7);
        Object before = held[register];
        held[register] = from < 0 ? null : held[from];
        return before == held[register];
    }

    int lose(int register, int row) {
        range(register, 0, 7);
        Object item = there(held[register]);
        supported(item instanceof Vector || item instanceof Grid);
        if (item instanceof Vector vector) {
            int had = Array.getLength(vector.storage);
            vector.storage = null;
            return had;
        }
        Grid grid = (Grid) item;
        int had = grid.rows[row].length;
        grid.rows[row] = null;
        return had;
    }

    int resize(int register, int size) {
        range(register, 0, 7);
        range(size, Integer.MIN_VALUE, 24);
        Object item = there(held[register]);
        supported(item instanceof Vector);
        Vector vector = (Vector) item;
        Object changed = Array.newInstance(ELEMENTS[vector.sort], size);
        int kept = Math.min(size, Array.getLength(vector.storage));
        System.arraycopy(vector.storage, 0, changed, 0, kept);
        vector.storage = changed;
        return kept;
    }

    int size(int register) {
        range(register, 0, 7);
        Object item = there(held[register]);
        supported(!(item instanceof Node));
        return sizeOf(item);
    }

    private static int sizeOf(Object item) {
        if (item instanceof Window window) {
            return sizeOf(window.base) - window.offset;
        }
        return item instanceof Grid grid ? grid.rows.length : Array.getLength(((Vector) item).storage);
    }

    long take(int register, int index) {
        range(register, 0, 7);
        supported(sortOf(there(held[register])) <= 7);
        return taken(held[register], index);
    }

    long put(int register, int index, long value) {
        range(register, 0, 7);
        supported(sortOf(there(held[register])) <= 7);
        store(held[register], index, value);
        return taken(held[register], index);
    }

    int cell(int register, int row, int column) {
        range(register, 0, 7);
        supported(held[register] == null || held[register] instanceof Grid);
        return ((Grid) held[register]).rows[row][column];
    }

    void setCell(int register, int row, int column, int value, int divisor) {
        range(register, 0, 7);
        supported(held[register] == null || held[register] instanceof Grid);
        ((Grid) held[register]).rows[row][column] = value / divisor;
    }

    void refer(int register, int index, int from) {
        range(register, 0, 7);
        range(from, 0, 7);
        supported(sortOf(there(held[register])) == 8);
        Object item = held[register];
        ((Object[]) vectorOf(item).storage)[placeOf(item, index)] = held[from];
    }

    int fetch(int to, int register, int index) {
        range(to, 0, 7);
        range(register, 0, 7);
        supported(sortOf(there(held[register])) == 8);
        Object item = held[register];
        held[to] = ((Object[]) vectorOf(item).storage)[placeOf(item, index)];
        return held[to] == null ? -1 : sortOf(held[to]);
    }

    void link(int register, int to) {
        range(register, 0, 7);
        range(to, 0, 7);
        supported(held[register] == null || held[register] instanceof Node);
        supported(held[to] == null || held[to] instanceof Node);
        ((Node) held[register]).link = (Node) held[to];
    }

    boolean follow(int to, int register) {
        range(to, 0, 7);
        held[to] = node(register).link;
        return held[to] == null;
    }

    long exchange(int register, long value) {
        Node node = node(register);
        long before = node.number;
        node.number = value;
        return before;
    }

    long total(int register) {
        return sum(node(register), 20);
    }

    private static long sum(Node node, int most) {
        return node == null || most == 0 ? 0 : node.number + sum(node.link, most - 1);
    }

    long combine(int operation, int register, int index, int other, int at) {
        range(operation, 0, 4);
        range(register, 0, 7);
        range(other, 0, 7);
        there(held[register]);
        there(held[other]);
        int highest = Math.max(sortOf(held[register]), sortOf(held[other]));
        supported(highest <= 5);
        long left = taken(held[register], index);
        long right = taken(held[other], at);
        store(held[register], index,
            highest < 5 ? withInts(operation, (int) left, (int) right) : withLongs(operation, left, right));
        return taken(held[register], index);
    }

    private static int withInts(int operation, int left, int right) {
        return switch (operation) {
            case 0 -> left + right;
            case 1 -> left - right;
            case 2 -> left * right;
            case 3 -> left / right;
            default -> left % right;
        };
    }

    private static long withLongs(int operation, long left, long right) {
        return switch (operation) {
            case 0 -> left + right;
            case 1 -> left - right;
            case 2 -> left * right;
            case 3 -> left / right;
            default -> left % right;
        };
    }

    int move(int register, int index, int other, int at, int n) {
        range(register, 0, 7);
        range(other, 0, 7);
        range(n, 0, 24);
        there(held[register]);
        there(held[other]);
        supported(sortOf(held[register]) <= 7 && sortOf(held[other]) <= 7);
        for (int i = 0; i < n; i++) {
            store(held[register], index + i, taken(held[other], at + i));
        }
        return n;
    }

    /** For tests that look for a register of use: -1 for none. */
    int sortIn(int register) {
        return held[register] == null ? -1 : sortOf(held[register]);
    }

    /** For tests that look for an element: where a vector's or window's ground begins. */
    int firstIndexIn(int register) {
        return -placeOf(held[register], 0);
    }

    private Node node(int register) {
        range(register, 0, 7);
        supported(held[register] == null || held[register] instanceof Node);
        return (Node) there(held[register]);
    }

    private static void range(int number, int least, int most) {
        if (number < least || number > most) {
            throw new IllegalArgumentException();
        }
    }

    private static void supported(boolean is) {
        if (!is) {
            throw new UnsupportedOperationException();
        }
    }

    private static Object there(Object item) {
        return java.util.Objects.requireNonNull(item);
    }

    private static Vector vectorOf(Object item) {
        return item instanceof Window window ? vectorOf(window.base) : (Vector) item;
    }

    private static int placeOf(Object item, int index) {
        return item instanceof Window window ? placeOf(window.base, window.offset + index) : index;
    }

    private static int sortOf(Object item) {
        if (item instanceof Grid) {
            return 9;
        }
        return item instanceof Node ? 10 : vectorOf(item).sort;
    }

    private static long taken(Object item, int index) {
        Object storage = vectorOf(item).storage;
        int at = placeOf(item, index);
        return switch (vectorOf(item).sort) {
            case 0 -> ((boolean[]) storage)[at] ? 1 : 0;
            case 1 -> ((byte[]) storage)[at];
            case 2 -> ((short[]) storage)[at];
            case 3 -> ((char[]) storage)[at];
            case 4 -> ((int[]) storage)[at];
            case 5 -> ((long[]) storage)[at];
            case 6 -> (long) ((float[]) storage)[at];
            default -> (long) ((double[]) storage)[at];
        };
    }

    private static void store(Object item, int index, long value) {
        Object storage = vectorOf(item).storage;
        int at = placeOf(item, index);
        switch (vectorOf(item).sort) {
            case 0 -> ((boolean[]) storage)[at] = value != 0;
            case 1 -> ((byte[]) storage)[at] = (byte) value;
            case 2 -> ((short[]) storage)[at] = (short) value;
            case 3 -> ((char[]) storage)[at] = (char) value;
            case 4 -> ((int[]) storage)[at] = (int) value;
            case 5 -> ((long[]) storage)[at] = value;
            case 6 -> ((float[]) storage)[at] = value;
            default -> ((double[]) storage)[at] = value;
        }
    }
}
