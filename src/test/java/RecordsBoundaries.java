/** Promises 16 to 19: records, their links and their numbers. */
final class RecordsBoundaries extends Boundaries {
    private static final int[] NO_RECORDS = {INTS, WINDOW, GRID, ITEMS, LOST};

    RecordsBoundaries(Sentences sentences) {
        super(sentences);
    }

    @Override
    void run() {
        sentences.promise(16, "The record's link becomes what the register to holds.", this::links);
        sentences.promise(16, "UnsupportedOperationException: one of them holds an item that is no record.",
            this::linkUnsupported);
        sentences.promise(16, "NullPointerException: the register holds NONE.",
            () -> leavesEach(Check.ABSENT, (h, to) -> h.link(NONE, to), NONE, RECORD, LINKED));
        sentences.promise(17, "The register to holds the record's link;", this::follows);
        sentences.promise(17, "answers whether that is NONE.", this::followAnswers);
        sentences.promise(17, "UnsupportedOperationException: it is another item.", this::followUnsupported);
        sentences.promise(17, "NullPointerException: NONE.",
            () -> leavesEach(Check.ABSENT, (h, to) -> h.follow(to, NONE), 0, 1, 2, 3, 4, 5, 6, 7));
        sentences.promise(18, "The record's number becomes value;", this::exchanges);
        sentences.promise(18, "answers the one before.", this::exchangeAnswers);
        sentences.promise(18, "As for follow.", this::exchangeRefused);
        sentences.promise(19, "The sum (wrapping) of the numbers of the record, of its link's, and so on,", this::totals);
        sentences.promise(19, "of 20 at most.", this::totalOfTwenty);
        sentences.promise(19, "As for follow.", this::totalRefused);
    }

    private void links() {
        TypedHall hall = furnished();
        hall.link(LINKED, RECORD);
        hall.follow(NONE, LINKED);
        check.says(true, () -> hall.copy(NONE, RECORD));
        hall.link(RECORD, RECORD);
        hall.follow(NONE, RECORD);
        check.says(true, () -> hall.copy(NONE, RECORD));
        hall.copy(NONE, -1);
        hall.link(RECORD, NONE);
        check.says(true, () -> hall.follow(INTS, RECORD));
        hall.link(RECORD, NONE);
        check.says(true, () -> hall.follow(INTS, RECORD));
        // What the register holds later is another thing.
        hall.link(RECORD, LINKED);
        hall.link(LINKED, NONE);
        hall.record(LINKED);
        check.answers(90, () -> hall.total(RECORD));
    }

    private void linkUnsupported() {
        leavesEach(Check.UNSUPPORTED, (h, other) -> h.link(other, RECORD), NO_RECORDS);
        leavesEach(Check.UNSUPPORTED, (h, other) -> h.link(RECORD, other), NO_RECORDS);
        leavesEach(Check.UNSUPPORTED, (h, other) -> h.link(other, other), NO_RECORDS);
        // Told before the NONE of either is.
        leavesEach(Check.UNSUPPORTED, (h, other) -> h.link(NONE, other), NO_RECORDS);
        leavesEach(Check.UNSUPPORTED, (h, other) -> h.link(other, NONE), NO_RECORDS);
    }

    private void follows() {
        for (int to = 0; to < 8; to++) {
            TypedHall hall = furnished();
            int t = to;
            hall.follow(t, RECORD);
            check.says(true, () -> hall.copy(t, LINKED));
            check.answers(50, () -> hall.total(t));
            hall.follow(t, t);
            check.refuses(Check.ABSENT, () -> hall.total(t));
        }
    }

    private void followAnswers() {
        TypedHall hall = furnished();
        check.says(false, () -> hall.follow(NONE, RECORD));
        check.says(true, () -> hall.follow(NONE, NONE));
        check.says(true, () -> hall.follow(INTS, LINKED));
        check.says(false, () -> hall.follow(RECORD, RECORD));
        check.says(true, () -> hall.follow(RECORD, RECORD));
        hall.link(LINKED, LINKED);
        for (int step = 0; step < 30; step++) {
            check.says(false, () -> hall.follow(LINKED, LINKED));
        }
        hall.link(LINKED, NONE);
        check.says(true, () -> hall.follow(INTS, LINKED));
    }

    private void followUnsupported() {
        leavesEach(Check.UNSUPPORTED, (h, other) -> h.follow(RECORD, other), NO_RECORDS);
        leavesEach(Check.UNSUPPORTED, (h, other) -> h.follow(NONE, other), NO_RECORDS);
        leavesEach(Check.UNSUPPORTED, (h, other) -> h.follow(other, other), NO_RECORDS);
    }

    private void exchanges() {
        for (long value : new long[] {0, 1, -1, 1L << 32, Long.MAX_VALUE, Long.MIN_VALUE}) {
            TypedHall hall = furnished();
            hall.copy(NONE, LINKED);
            hall.exchange(NONE, value);
            check.answers(value, () -> hall.total(LINKED));
            check.answers(40 + value, () -> hall.total(RECORD));
            check.says(false, () -> hall.follow(INTS, RECORD));
        }
    }

    private void exchangeAnswers() {
        TypedHall hall = new TypedHall();
        hall.record(0);
        hall.record(1);
        check.answers(0, () -> hall.exchange(0, Long.MAX_VALUE));
        check.answers(Long.MAX_VALUE, () -> hall.exchange(0, Long.MIN_VALUE));
        check.answers(Long.MIN_VALUE, () -> hall.exchange(0, 1L << 32));
        check.answers(1L << 32, () -> hall.exchange(0, -1));
        check.answers(-1, () -> hall.exchange(0, -1));
        check.answers(-1, () -> hall.exchange(0, 0));
        check.answers(0, () -> hall.exchange(1, 7));
    }

    private void exchangeRefused() {
        leavesEach(Check.UNSUPPORTED, (h, other) -> h.exchange(other, 9), NO_RECORDS);
        leaves(Check.ABSENT, h -> h.exchange(NONE, 9));
    }

    private void totals() {
        TypedHall hall = new TypedHall();
        hall.record(0);
        hall.exchange(0, Long.MAX_VALUE);
        check.answers(Long.MAX_VALUE, () -> hall.total(0));
        hall.record(1);
        hall.link(1, 0);
        check.answers(Long.MAX_VALUE, () -> hall.total(1));
        hall.exchange(1, 1);
        check.answers(Long.MIN_VALUE, () -> hall.total(1));
        hall.record(2);
        hall.link(2, 1);
        hall.exchange(2, Long.MIN_VALUE);
        check.answers(0, () -> hall.total(2));
        check.answers(Long.MIN_VALUE, () -> hall.total(1));
        check.answers(Long.MAX_VALUE, () -> hall.total(0));
        hall.exchange(1, -1);
        check.answers(-2, () -> hall.total(2));
    }

    private void totalOfTwenty() {
        for (int length : new int[] {1, 2, 19, 20, 21, 22, 40}) {
            TypedHall hall = chain(length);
            long due = 0;
            for (int number = length; number > 0 && number > length - 20; number--) {
                due += number;
            }
            long sum = due;
            check.answers(sum, () -> hall.total(0));
        }
        for (int ring = 1; ring <= 21; ring++) {
            TypedHall hall = chain(ring);
            hall.copy(1, 0);
            for (int step = 1; step < ring; step++) {
                hall.follow(1, 1);
            }
            hall.link(1, 0);
            long due = 0;
            for (int counted = 0; counted < 20; counted++) {
                due += ring - counted % ring;
            }
            long sum = due;
            check.answers(sum, () -> hall.total(0));
        }
    }

    /** Register 0 holds the first of some records, whose numbers go down to 1. */
    private static TypedHall chain(int length) {
        TypedHall hall = new TypedHall();
        for (int number = 1; number <= length; number++) {
            hall.record(1);
            hall.exchange(1, number);
            hall.link(1, 0);
            hall.copy(0, 1);
        }
        return hall;
    }

    private void totalRefused() {
        leavesEach(Check.UNSUPPORTED, (h, other) -> h.total(other), NO_RECORDS);
        leaves(Check.ABSENT, h -> h.total(NONE));
    }
}
