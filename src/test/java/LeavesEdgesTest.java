/** The boundary cases of LEAVES and of promises 20 to 25, a test for each sentence. */
public final class LeavesEdgesTest {
    private static final Check check = new Check();
    private static final Twins twins = new Twins(check);
    private static final int LEAST = Integer.MIN_VALUE, MOST = Integer.MAX_VALUE;
    private static final long NO_DOUBLE = 0x7ff8000000000000L;
    /** Among the LEAVES of four(): what links and marks of its OBJECTS, by their numbers, are told as. */
    private static final int BACK_OF_0 = 1, LINK_OF_1 = 3, OWN_LINK_OF_1 = 4, MARK_OF_1 = 5, OWN_LINK_OF_3 = 8,
            MARK_OF_3 = 9;

    public static void main(String[] args) {
        itIsNumberZero();
        notFoundYet();
        leavesInOrder();
        leavesThatAreNotZero();
        leavesOfLinks();
        leavesOfRows();
        roomForObjects();
        roomForLeaves();
        roomForBoth();
        madeThroughMakers();
        madeWithoutLeaves();
        madeByLowestBits();
        madeWithRows();
        madeWithLinks();
        leavesInPlace();
        leavesBad();
        leavesFail();
        leavesFull();
        leafKinds();
        leafMayBeBad();
        alterKept();
        alterBad();
        backMade();
        backBad();
        backFull();
        backMakersFirst();
        backNumbers();
        backClasses();
        backAsTheyCome();
        equalLeaves();
        equalNothing();
        equalBad();
        equalFull();
        changedInOrder();
        changedAsTold();
        changedLinks();
        changedRows();
        changedNone();
        changedBad();
        changedFirstFailure();
        check.end();
    }

    /** The LEAVES are these, each as the OBJECT's number, FIELD and VALUE. */
    private static void told(FieldLeaves x, String of, long[]... due) {
        for (int k = 0; k < due.length; k++) {
            for (int what = 0; what < 3; what++) {
                check.due(of + ": leaf " + k + ", " + what, x.leaf(k, what), due[k][what]);
            }
        }
        check.due(of + ": no more leaves", x.leaf(due.length, 0), Check.BAD);
    }

    private static long[] leaf(long number, long field, long value) {
        return new long[] {number, field, value};
    }

    private static void itIsNumberZero() {
        check.says(Check.TERMS, "it is number 0");
        FieldLeaves x = Check.oneOfEach(0);
        x.link(3, 15, 3);
        check.due("leaves of what leads to itself", x.leaves(3), 2);
        told(x, "itself", leaf(0, -1, 3), leaf(0, 15, 0));
        x.link(0, 8, 2);
        x.link(2, 8, 0);
        check.due("leaves of a ring", x.leaves(2), 4);
        told(x, "ring", leaf(0, -1, 2), leaf(0, 8, 1), leaf(1, -1, 0), leaf(1, 8, 0));
        check.due("leaves of the ring from the other", x.leaves(0), 4);
        told(x, "other ring", leaf(0, -1, 0), leaf(0, 8, 1), leaf(1, -1, 2), leaf(1, 8, 0));
    }

    private static void notFoundYet() {
        check.says(Check.TERMS, "of each found one, in order, those that its FIELDS hold (8, then 11; 15), "
                + "which were not found yet, come behind");
        FieldLeaves x = new FieldLeaves();
        for (int s = 0; s < 6; s++) {
            x.make(s, Check.TIP, s);
        }
        x.link(0, 8, 1);
        x.link(0, 11, 2);
        x.link(1, 8, 3);
        x.link(1, 11, 2);
        x.link(2, 8, 4);
        x.link(2, 11, 3);
        x.link(4, 8, 5);
        x.link(4, 11, 5);
        x.leaves(0);
        told(x, "six", leaf(0, -1, 2), leaf(0, 8, 1), leaf(0, 11, 2),
                leaf(1, -1, 2), leaf(1, 8, 3), leaf(1, 11, 2), leaf(1, 13, 1),
                leaf(2, -1, 2), leaf(2, 8, 4), leaf(2, 11, 3), leaf(2, 13, 2),
                leaf(3, -1, 2), leaf(3, 13, 3),
                leaf(4, -1, 2), leaf(4, 8, 5), leaf(4, 11, 5), leaf(4, 13, 4),
                leaf(5, -1, 2), leaf(5, 13, 5));
        x.link(0, 8, 2);
        x.link(0, 11, 1);
        x.leaves(0);
        check.due("what 8 holds comes first", x.leaf(6, 2), 2);
        check.due("and is number 1", x.leaf(1, 2), 1);
    }

    private static void leavesInOrder() {
        check.says(Check.TERMS, "its CLASS (as FIELD -1); then its FIELDS, by numbers");
        FieldLeaves x = new FieldLeaves();
        x.make(0, Check.TIP, 1000);
        for (int field = 12; field >= 0; field--) {
            x.set(0, field, -1);
        }
        x.link(0, 11, 0);
        x.row(0, 1);
        x.link(0, 8, 0);
        check.due("leaves", x.leaves(0), 16);
        told(x, "TIP", leaf(0, -1, 2), leaf(0, 0, 1), leaf(0, 1, -1), leaf(0, 2, -1), leaf(0, 3, 65535),
                leaf(0, 4, -1), leaf(0, 5, -1), leaf(0, 6, 0x7fc00000), leaf(0, 7, NO_DOUBLE), leaf(0, 8, 0),
                leaf(0, 9, 1), leaf(0, 100, 0), leaf(0, 10, -1), leaf(0, 11, 0), leaf(0, 12, -1), leaf(0, 13, 1000));
    }

    private static void leavesThatAreNotZero() {
        check.says(Check.TERMS, "that are not 0, false, NOTHING (of ratio, exact, weight: whose bits are not all 0)");
        for (int cls = Check.BASE; cls <= Check.SIGNAL; cls++) {
            FieldLeaves x = new FieldLeaves();
            x.make(0, cls, 0);
            check.due("leaves of " + cls, x.leaves(0), 1);
            told(x, "of " + cls, leaf(0, -1, cls));
        }
        FieldLeaves x = Check.oneOfEach(0);
        x.set(0, 6, 0x80000000L);
        x.set(0, 7, Long.MIN_VALUE);
        check.due("leaves with -0", x.leaves(0), 3);
        told(x, "-0", leaf(0, -1, 0), leaf(0, 6, LEAST), leaf(0, 7, Long.MIN_VALUE));
        x.set(3, 14, Long.MIN_VALUE);
        check.due("leaves with a weight of -0", x.leaves(3), 2);
        told(x, "weight of -0", leaf(0, -1, 3), leaf(0, 14, Long.MIN_VALUE));
        x.set(0, 6, 0);
        x.set(0, 7, 0);
        x.set(0, 0, 2);
        x.set(0, 1, 256);
        x.set(0, 3, 65536);
        check.due("leaves of what became 0 again", x.leaves(0), 1);
    }

    private static void leavesOfLinks() {
        check.says(Check.TERMS, "of 8, 11, 15 the number of the OBJECT");
        FieldLeaves x = new FieldLeaves();
        x.make(10, Check.BASE, 0);
        x.share(10, 0);
        for (int i = 1; i < 24; i++) {
            x.make(11, Check.BASE, 0);
            x.link(11, 8, 0);
            x.share(11, 0);
        }
        x.link(10, 8, 0);
        check.due("leaves of a ring of 24", x.leaves(0), 48);
        for (int number = 0; number < 24; number++) {
            check.due("what " + number + " holds", x.leaf(2 * number + 1, 2), (number + 1) % 24);
        }
        x.link(10, 8, 10);
        x.leaves(0);
        check.due("the last holds itself", x.leaf(47, 2), 23);
    }

    private static void leavesOfRows() {
        check.says(Check.TERMS, "of 9 how many ints, and then each of these as a LEAF of FIELD 100 and its place, 0 or not");
        FieldLeaves x = Check.oneOfEach(0);
        x.row(0, 20);
        x.put(0, 0, LEAST);
        x.put(0, 19, MOST);
        check.due("leaves of 20 ints", x.leaves(0), 22);
        check.due("how many", x.leaf(1, 2), 20);
        for (int i = 0; i < 20; i++) {
            check.due("field of int " + i, x.leaf(2 + i, 1), 100 + i);
            check.due("int " + i, x.leaf(2 + i, 2), i == 0 ? LEAST : i == 19 ? MOST : 0);
        }
        x.row(0, 0);
        check.due("leaves of no ints", x.leaves(0), 2);
        told(x, "no ints", leaf(0, -1, 0), leaf(0, 9, 0));
        x.row(0, Check.NONE);
        check.due("leaves without a row", x.leaves(0), 1);
    }

    private static void roomForObjects() {
        check.says(Check.TERMS, "There is room for 24 OBJECTS");
        int[][] chains = {{Check.BASE, 8}, {Check.TIP, 8}, {Check.MIDDLE, 11}, {Check.STRAY, 15}};
        for (int[] each : chains) {
            for (int size : new int[] {1, 23, 24, 25, 26}) {
                FieldLeaves x = new FieldLeaves();
                Check.chain(x, 0, size, each[0], each[1]);
                check.due("leaves of " + size + " by " + each[1], x.leaves(0), size <= 24 ? 2 * size - 1 : Check.FULL);
            }
        }
        FieldLeaves x = new FieldLeaves();
        Check.chain(x, 0, 11, Check.MIDDLE, 11);
        Check.chain(x, 1, 12);
        x.make(2, Check.TIP, 0);
        x.link(2, 11, 0);
        x.link(2, 8, 1);
        check.due("leaves of two chains, 24 in all", x.leaves(2), 47);
        x.make(3, Check.STRAY, 0);
        x.link(3, 15, 2);
        check.due("leaves of two chains, 25 in all", x.leaves(3), Check.FULL);
        Check.chain(x, 0, 24);
        for (int i = 0; i < 40; i++) {
            x.make(5, Check.BASE, 0);
            x.link(5, 8, 0);
        }
        check.due("OBJECTS that it does not lead to", x.leaves(0), 47);
    }

    /**
     * SLOT 0 holds the first of 13 BASES with 277 LEAVES and some more; SLOT 10 the last one, which has no row,
     * link or other FIELD.
     */
    private static void large(FieldLeaves x, int more) {
        x.make(0, Check.BASE, 0);
        x.share(0, 10);
        for (int i = 0; i < 12; i++) {
            x.make(11, Check.BASE, 0);
            x.link(11, 8, 0);
            x.row(11, 20);
            for (int field = 0; field <= 7 && 8 * i + field < more; field++) {
                x.set(11, field, 1);
            }
            x.share(11, 0);
        }
        x.clear(11);
    }

    private static FieldLeaves threeHundred() {
        FieldLeaves x = new FieldLeaves();
        large(x, 23);
        return x;
    }

    private static void roomForLeaves() {
        check.says(Check.TERMS, "and 300 LEAVES");
        for (int more : new int[] {22, 23, 24}) {
            FieldLeaves x = new FieldLeaves();
            large(x, more);
            check.due("leaves, by FIELDS", x.leaves(0), more <= 23 ? 277 + more : Check.FULL);
        }
        FieldLeaves x = threeHundred();
        x.link(10, 8, 0);
        check.due("leaves, one too many by a link", x.leaves(0), Check.FULL);
        x.link(10, 8, 9);
        check.due("leaves, without it", x.leaves(0), 300);
        x.row(10, 0);
        check.due("leaves, one too many by a length", x.leaves(0), Check.FULL);
        x = new FieldLeaves();
        large(x, 20);
        x.row(10, 2);
        check.due("leaves, with a row of 2", x.leaves(0), 300);
        check.due("the last LEAF", x.leaf(299, 1), 101);
        x.row(10, 3);
        check.due("leaves, one too many by a place", x.leaves(0), Check.FULL);
        x.row(10, 20);
        check.due("leaves, many too many by places", x.leaves(0), Check.FULL);
        x = new FieldLeaves();
        large(x, 22);
        x.make(9, Check.BASE, 0);
        x.link(10, 8, 9);
        check.due("leaves, one too many by a CLASS", x.leaves(0), Check.FULL);
    }

    private static void roomForBoth() {
        check.says(Check.TERMS, "There is room for 24 OBJECTS and 300 LEAVES");
        FieldLeaves x = new FieldLeaves();
        Check.chain(x, 0, 12);
        for (int i = 0; i < 12; i++) {
            x.make(11, Check.BASE, 0);
            x.link(11, 8, 0);
            x.row(11, 20);
            x.share(11, 0);
        }
        x.set(0, 4, 1);
        check.due("24 and 300", x.leaves(0), 300);
        check.due("made again", x.back(1), 24);
        check.due("with the same LEAVES", x.equal(0, 1), 1);
        x.set(0, 5, 1);
        check.due("24 and 301", x.leaves(0), Check.FULL);
    }

    private static void madeThroughMakers() {
        check.says(Check.TERMS, "each by its CLASS through its maker (told its FIELD 13, 16: 0 without such a LEAF)");
        for (int n : new int[] {0, 1, 1000}) {
            for (int cls : new int[] {Check.TIP, Check.SIGNAL}) {
                FieldLeaves x = new FieldLeaves();
                x.make(0, cls, n);
                check.due("leaves of " + n, x.leaves(0), n == 0 ? 1 : 2);
                check.due("back of " + n, x.back(1), 1);
                check.due("told " + n, x.get(1, cls == Check.TIP ? 13 : 16), n);
            }
        }
        FieldLeaves x = new FieldLeaves();
        int[] marks = {5, 0, 7};
        for (int i = 2; i >= 0; i--) {
            x.make(1, Check.TIP, marks[i]);
            x.link(1, 11, 0);
            x.share(1, 0);
        }
        x.leaves(0);
        x.back(0);
        for (int i = 0; i < 3; i++) {
            check.due("each its own mark, " + i, x.get(0, 13), marks[i]);
            x.follow(0, 11, 0);
        }
    }

    private static void madeWithoutLeaves() {
        check.says(Check.TERMS, "all FIELDS without a LEAF 0, false, NOTHING");
        FieldLeaves x = new FieldLeaves();
        Twins.allKinds(x);
        x.make(6, Check.TIP, 0);
        x.leaves(6);
        check.due("back", x.back(2), 1);
        for (int field : new int[] {0, 1, 2, 3, 4, 5, 6, 7, 10, 12, 13}) {
            check.due("field " + field, x.get(2, field), 0);
        }
        for (int field : new int[] {8, 11}) {
            x.follow(2, field, 7);
            check.due("field " + field, x.cls(7), Check.NONE);
        }
        check.due("row", x.length(2), Check.NOTHING);
    }

    /** An OBJECT with a FIELD that is 1 is made again, after the VALUE of its LEAF became another. */
    private static void madeWith(int cls, int field, long given, long told) {
        FieldLeaves x = new FieldLeaves();
        x.make(0, cls, 1);
        x.set(0, field, 1);
        x.leaves(0);
        check.due("alter " + field, x.alter(1, given), 1);
        check.due("kept as given", x.leaf(1, 2), given);
        check.due("back with " + field + " of " + given, x.back(1), 1);
        check.due("made with " + field + " of " + given, x.get(1, field), told);
    }

    private static void madeByLowestBits() {
        check.says(Check.TERMS, "they are given by their lowest bits likewise");
        madeWith(Check.BASE, 0, 2, 0);
        madeWith(Check.BASE, 0, -1, 1);
        madeWith(Check.BASE, 1, 128, -128);
        madeWith(Check.BASE, 1, -129, 127);
        madeWith(Check.BASE, 2, 32768, -32768);
        madeWith(Check.BASE, 2, -32769, 32767);
        madeWith(Check.BASE, 3, 65535, 65535);
        madeWith(Check.BASE, 3, -1, 65535);
        madeWith(Check.BASE, 4, 1L << 31, LEAST);
        madeWith(Check.BASE, 4, 1L << 32, 0);
        madeWith(Check.BASE, 5, Long.MIN_VALUE, Long.MIN_VALUE);
        madeWith(Check.BASE, 6, 0x1_7f800000L, 0x7f800000L);
        madeWith(Check.BASE, 6, 0xff800001L, 0x7fc00000L);
        madeWith(Check.BASE, 7, 0xfff0000000000000L, 0xfff0000000000000L);
        madeWith(Check.BASE, 7, -1, NO_DOUBLE);
        madeWith(Check.MIDDLE, 10, (1L << 32) - 7, -7);
        madeWith(Check.STRAY, 14, 0x7ff0000000000001L, NO_DOUBLE);
        madeWith(Check.TIP, 12, Long.MAX_VALUE, Long.MAX_VALUE);
        madeWith(Check.TIP, 13, (1L << 32) + 1000, 1000);
        madeWith(Check.SIGNAL, 16, (1L << 32) - 3, -3);
        for (int field = 0; field <= 7; field++) {
            madeWith(Check.TIP, field, 0, 0);
        }
    }

    private static void madeWithRows() {
        check.says(Check.TERMS, "then what they hold, by LEAVES in order");
        for (int n : new int[] {0, 1, 20}) {
            FieldLeaves x = Check.oneOfEach(0);
            x.row(0, n);
            x.leaves(0);
            long[] given = {LEAST, MOST, 1L << 32, (1L << 32) - 6, 0};
            for (int i = 0; i < n; i++) {
                check.due("alter place " + i, x.alter(2 + i, given[i % 5]), 1);
            }
            check.due("back of " + n, x.back(5), 1);
            check.due("length of " + n, x.length(5), n);
            for (int i = 0; i < n; i++) {
                check.due("int " + i + " of " + n, x.put(5, i, 9), (int) given[i % 5]);
                check.due("int " + i + " of the other row", x.put(0, i, 0), 0);
            }
            check.due("back of " + n + " again", x.back(6), 1);
            for (int i = 0; i < n; i++) {
                check.due("int " + i + " of a row of its own", x.put(6, i, 9), (int) given[i % 5]);
            }
        }
    }

    private static void madeWithLinks() {
        check.says(Check.TERMS, "then what they hold, by LEAVES in order");
        FieldLeaves x = new FieldLeaves();
        four(x);
        x.back(9);
        x.follow(9, 15, 10);
        check.due("15 of 0", x.cls(10), Check.TIP);
        check.due("mark of 1", x.get(10, 13), 6);
        x.follow(10, 8, 8);
        check.due("8 of 1", x.cls(8), Check.BASE);
        x.follow(10, 11, 7);
        check.due("11 of 1", x.get(7, 13), 5);
        x.follow(7, 11, 6);
        check.due("11 of 3, one that was made before it", x.same(6, 10), 1);
        check.due("none of those that were told", x.same(10, 2), 0);
    }

    private static void leavesInPlace() {
        check.says(20, "LEAVES of what a SLOT holds, in place of those that there were: how many");
        FieldLeaves x = new FieldLeaves();
        Twins.allKinds(x);
        check.due("leaves of many", x.leaves(3), 51);
        check.due("leaves of few", x.leaves(4), 2);
        told(x, "few", leaf(0, -1, 4), leaf(0, 16, 9));
        x.make(4, Check.SIGNAL, 8);
        told(x, "few, whatever comes later", leaf(0, -1, 4), leaf(0, 16, 9));
        check.due("leaves of a new one", x.leaves(4), 2);
        told(x, "a new one", leaf(0, -1, 4), leaf(0, 16, 8));
        check.due("leaves of slot 11", x.share(4, 11) + x.leaves(11), 3);
        check.due("altered LEAVES are told anew", x.alter(1, 7) + x.leaves(4), 3);
        told(x, "told anew", leaf(0, -1, 4), leaf(0, 16, 8));
    }

    private static void leavesBad() {
        check.says(20, "BAD.");
        twins.slots("leaves", (x, s) -> x.leaves(s));
    }

    private static void leavesFail() {
        check.says(20, "FAILURE 1.");
        twins.same("leaves of NOTHING", Check.NOTHING, x -> x.leaves(11));
        check.due("leaves of NOTHING in a new object", new FieldLeaves().leaves(0), Check.NOTHING);
    }

    private static void leavesFull() {
        check.says(20, "FULL (those that there were stay)");
        Twins tooMany = new Twins(check, x -> {
            Twins.allKinds(x);
            Check.chain(x, 6, 25);
        });
        tooMany.same("leaves of 25 OBJECTS", Check.FULL, x -> x.leaves(6));
        Twins tooLong = new Twins(check, x -> {
            large(x, 24);
            x.make(3, Check.SIGNAL, 5);
            x.leaves(3);
            x.alter(1, 6);
        });
        tooLong.same("leaves of 301 LEAVES", Check.FULL, x -> x.leaves(0));
        Twins none = new Twins(check, x -> Check.chain(x, 0, 25));
        none.same("leaves of 25 OBJECTS, ahead of all others", Check.FULL, x -> x.leaves(0));
        FieldLeaves x = threeHundred();
        x.leaves(0);
        x.set(10, 4, 1);
        check.due("leaves of 301 behind 300", x.leaves(0), Check.FULL);
        check.due("the 300th", x.leaf(299, 1), -1);
        check.due("no more", x.leaf(300, 1), Check.BAD);
        check.due("back", x.back(1), 13);
    }

    private static void leafKinds() {
        check.says(21, "0 the OBJECT's number, 1 the FIELD (-1: CLASS, 100 and more: places of a row), 2 the VALUE");
        FieldLeaves x = Check.oneOfEach(7);
        x.row(2, 20);
        x.link(3, 15, 2);
        x.leaves(3);
        check.due("the first", x.leaf(0, 0), 0);
        check.due("its FIELD", x.leaf(0, 1), -1);
        check.due("its VALUE", x.leaf(0, 2), 3);
        check.due("the last place's number", x.leaf(23, 0), 1);
        check.due("the last place", x.leaf(23, 1), 119);
        check.due("the last LEAF", x.leaf(24, 2), 7);
        check.due("one more", x.leaf(25, 2), Check.BAD);
    }

    private static void leafMayBeBad() {
        check.says(21, "BAD (which it may be)");
        FieldLeaves x = Check.oneOfEach(0);
        x.set(0, 4, -1);
        x.leaves(0);
        check.due("FIELD -1", x.leaf(0, 1), -1);
        check.due("VALUE -1", x.leaf(1, 2), -1);
        for (int what = 0; what < 3; what++) {
            for (int k : new int[] {-1, 51, 299, 300, LEAST, MOST}) {
                int of = what;
                twins.same("leaf " + k + ", " + what, Check.BAD, y -> y.leaf(k, of));
            }
        }
        for (int what : new int[] {-1, 3, LEAST, MOST}) {
            twins.same("leaf 0, " + what, Check.BAD, y -> y.leaf(0, what));
            twins.same("leaf 50, " + what, Check.BAD, y -> y.leaf(50, what));
        }
        x = threeHundred();
        x.leaves(0);
        check.due("leaf 299", x.leaf(299, 0), 12);
        check.due("leaf 300", x.leaf(300, 0), Check.BAD);
    }

    private static void alterKept() {
        check.says(22, "is another one, kept as it is given (0, too): 1");
        FieldLeaves x = new FieldLeaves();
        Twins.allKinds(x);
        long[] values = {0, 1, -1, LEAST, MOST, 1L << 32, Long.MIN_VALUE, Long.MAX_VALUE, 0xff800001L, -2};
        for (int k = 0; k < 51; k++) {
            long field = x.leaf(k, 1);
            long number = x.leaf(k, 0);
            long value = values[k % values.length];
            if (field != -1 && field != 9) {
                check.due("alter " + k, x.alter(k, value), 1);
                check.due("VALUE of " + k, x.leaf(k, 2), value);
                check.due("FIELD of " + k, x.leaf(k, 1), field);
                check.due("number of " + k, x.leaf(k, 0), number);
            }
        }
        twins.same("alter to what it is", 1, y -> y.alter(21, 8));
        twins.same("alter and alter again", 2, y -> y.alter(50, 99) + y.alter(50, 0));
    }

    private static void alterBad() {
        check.says(22, "BAD: also such a LEAF");
        for (int k : new int[] {0, 3, 22, 38}) {
            twins.same("alter the CLASS at " + k, Check.BAD, x -> x.alter(k, 1));
            twins.same("alter the CLASS at " + k + " to 0", Check.BAD, x -> x.alter(k, 0));
        }
        for (int k : new int[] {13, 32, 48}) {
            twins.same("alter the length at " + k, Check.BAD, x -> x.alter(k, 1));
        }
        for (int k : new int[] {-1, 51, 299, 300, LEAST, MOST}) {
            twins.same("alter " + k, Check.BAD, x -> x.alter(k, 1));
        }
        check.due("alter without LEAVES", new FieldLeaves().alter(0, 1), Check.BAD);
        FieldLeaves x = new FieldLeaves();
        Twins.allKinds(x);
        x.leaves(4);
        check.due("alter behind the LEAVES that there are now", x.alter(2, 1), Check.BAD);
    }

    private static void backMade() {
        check.says(23, "MADE from the LEAVES: SLOT s holds number 0: how many OBJECTS");
        FieldLeaves x = new FieldLeaves();
        Twins.allKinds(x);
        x.alter(21, 9);
        check.due("back", x.back(11), 4);
        check.due("the same LEAVES", x.equal(3, 11), 1);
        check.due("another OBJECT", x.same(3, 11), 0);
        check.due("back where it came from", x.back(3), 4);
        check.due("another one again", x.same(3, 11), 0);
        check.due("the LEAVES stay", x.leaf(50, 1), 101);
        check.due("no more LEAVES", x.leaf(51, 1), Check.BAD);
        x.leaves(4);
        check.due("back of one", x.back(0), 1);
        check.due("its code", x.raise(0), 9);
        Check.chain(x, 6, 24);
        x.leaves(6);
        check.due("back of 24", x.back(0), 24);
        x.alter(1, 0);
        check.due("all are made, if it leads to them or not", x.back(0), 24);
        check.due("it leads to itself", x.leaves(0), 2);
    }

    private static void backBad() {
        check.says(23, "BAD.");
        twins.slots("back", (x, s) -> x.back(s));
        Twins none = new Twins(check, x -> x.make(0, Check.BASE, 0));
        for (int s : Check.NO_SLOTS) {
            none.same("back in slot " + s + " without LEAVES", Check.BAD, x -> x.back(s));
        }
    }

    private static void backFull() {
        check.says(23, "FULL: there are no LEAVES");
        Twins none = new Twins(check, x -> {
            for (int cls = Check.BASE; cls <= Check.SIGNAL; cls++) {
                x.make(cls, cls, 0);
            }
        });
        none.same("back in slot 0", Check.FULL, x -> x.back(0));
        none.same("back in slot 11", Check.FULL, x -> x.back(11));
        none.same("back behind refused LEAVES", Check.FULL + Check.NOTHING, x -> x.leaves(9) + x.back(0));
    }

    /** LEAVES of a STRAY (0), which leads to a TIP (1), which leads to a BASE (2) and a TIP (3), which holds 1 in 11. */
    private static void four(FieldLeaves x) {
        x.make(0, Check.BASE, 0);
        x.make(1, Check.TIP, 5);
        x.make(2, Check.TIP, 6);
        x.make(3, Check.STRAY, 0);
        x.link(3, 15, 2);
        x.link(2, 8, 0);
        x.link(2, 11, 1);
        x.link(1, 11, 2);
        x.leaves(3);
    }

    /** Behind four(), with LEAVES altered in pairs of k and VALUE: back FAILS and changes nothing. */
    private static void backFails(String name, long due, long... altered) {
        Twins past = new Twins(check, x -> {
            four(x);
            // What an earlier back made is not touched, either.
            x.back(5);
            for (int i = 0; i < altered.length; i += 2) {
                x.alter((int) altered[i], altered[i + 1]);
            }
        });
        past.same(name, due, x -> x.back(3));
        past.same(name + " into NOTHING", due, x -> x.back(11));
    }

    private static int backAnswers(long... altered) {
        FieldLeaves x = new FieldLeaves();
        four(x);
        for (int i = 0; i < altered.length; i += 2) {
            x.alter((int) altered[i], altered[i + 1]);
        }
        return x.back(9);
    }

    private static void backMakersFirst() {
        check.says(23, "8 (all makers first)");
        check.due("back of four", backAnswers(), 4);
        for (int at : new int[] {MARK_OF_1, MARK_OF_3}) {
            check.due("mark 0", backAnswers(at, 0), 4);
            check.due("mark 1000", backAnswers(at, 1000), 4);
            check.due("mark of the lowest bits", backAnswers(at, (1L << 32) + 1000), 4);
            for (long mark : new long[] {-1, 1001, LEAST, MOST, 1L << 31, (1L << 32) + 1001, -1L << 16}) {
                backFails("mark " + mark, Check.MAKER, at, mark);
            }
        }
        backFails("8 of the last ahead of 2 of the first", Check.MAKER, BACK_OF_0, 4, MARK_OF_3, -1);
        backFails("8 of the last ahead of 4 of one before", Check.MAKER, LINK_OF_1, 0, MARK_OF_3, 1001);
        FieldLeaves x = new FieldLeaves();
        for (long code : new long[] {0, -1, 1001, LEAST, MOST, 1L << 32, Long.MIN_VALUE + 7}) {
            x.make(0, Check.SIGNAL, 5);
            x.leaves(0);
            x.alter(1, code);
            check.due("a SIGNAL takes any", x.back(0), 1);
            check.due("code by its lowest bits", x.get(0, 16), (int) code);
        }
    }

    private static void backNumbers() {
        check.says(23, "2 a number of no OBJECT");
        check.due("15: the first", backAnswers(BACK_OF_0, 0), 4);
        check.due("15: the last", backAnswers(BACK_OF_0, 3), 4);
        check.due("8: the last", backAnswers(LINK_OF_1, 3), 4);
        check.due("11: the last", backAnswers(OWN_LINK_OF_3, 3), 4);
        for (int at : new int[] {BACK_OF_0, LINK_OF_1, OWN_LINK_OF_1, OWN_LINK_OF_3}) {
            for (long number : new long[] {-1, 4, 23, 24, LEAST, MOST, Long.MAX_VALUE}) {
                backFails("number " + number + " at " + at, Check.PLACE, at, number);
            }
        }
        FieldLeaves x = new FieldLeaves();
        Check.chain(x, 0, 24);
        x.leaves(0);
        x.alter(45, 23);
        check.due("number 23 of 24", x.back(0), 24);
        x.alter(45, 24);
        check.due("number 24 of 24", x.back(0), Check.PLACE);
        x.make(0, Check.BASE, 0);
        x.link(0, 8, 0);
        x.leaves(0);
        x.alter(1, 1);
        check.due("number 1 of 1, which an earlier back made", x.back(0), Check.PLACE);
    }

    private static void backClasses() {
        check.says(23, "4 one that may not be in such a FIELD");
        for (int number = 0; number < 4; number++) {
            check.due("15 takes number " + number, backAnswers(BACK_OF_0, number), 4);
        }
        for (int number = 1; number < 4; number++) {
            check.due("8 takes number " + number, backAnswers(LINK_OF_1, number), 4);
        }
        check.due("11 takes a TIP", backAnswers(OWN_LINK_OF_1, 1), 4);
        backFails("8 takes no STRAY", Check.CLASS, LINK_OF_1, 0);
        for (int at : new int[] {OWN_LINK_OF_1, OWN_LINK_OF_3}) {
            backFails("11 takes no STRAY", Check.CLASS, at, 0);
            backFails("11 takes no BASE", Check.CLASS, at, 2);
        }
    }

    private static void backAsTheyCome() {
        check.says(23, "FAILURES, as they come");
        backFails("2, then 4", Check.PLACE, BACK_OF_0, -1, LINK_OF_1, 0);
        backFails("4, then 2", Check.CLASS, LINK_OF_1, 0, OWN_LINK_OF_1, 4);
        backFails("2 in 8, then 4 in 11", Check.PLACE, LINK_OF_1, 4, OWN_LINK_OF_1, 2);
        backFails("4 of one, then 2 of the last", Check.CLASS, OWN_LINK_OF_1, 2, OWN_LINK_OF_3, 9);
        backFails("2 of one, then 4 of the last", Check.PLACE, OWN_LINK_OF_1, 9, OWN_LINK_OF_3, 2);
    }

    private static void equalLeaves() {
        check.says(24, "Whether two SLOTS hold OBJECTS with the same LEAVES");
        FieldLeaves x = new FieldLeaves();
        four(x);
        check.due("one SLOT", x.equal(3, 3), 1);
        x.back(9);
        check.due("made again", x.equal(3, 9), 1);
        check.due("the other way round", x.equal(9, 3), 1);
        x.follow(9, 15, 10);
        x.follow(10, 11, 10);
        x.set(10, 12, 1);
        check.due("one LEAF more, far away", x.equal(3, 9), 0);
        x.set(1, 12, 2);
        check.due("another VALUE, far away", x.equal(3, 9), 0);
        x.set(1, 12, 0);
        x.set(1, 10, 1);
        check.due("another FIELD with that VALUE", x.equal(3, 9), 0);
        x.set(10, 12, 0);
        x.set(10, 10, 1);
        check.due("the same again", x.equal(3, 9), 1);
        x.link(10, 11, 10);
        check.due("linked to another", x.equal(3, 9), 0);
        x = Check.oneOfEach(0);
        for (int s = 0; s <= Check.SIGNAL; s++) {
            for (int t = 0; t <= Check.SIGNAL; t++) {
                check.due("CLASSES " + s + " and " + t, x.equal(s, t), s == t ? 1 : 0);
            }
        }
    }

    private static void equalNothing() {
        check.says(24, "(also both NOTHING): 1, 0");
        twins.same("both NOTHING", 1, x -> x.equal(9, 10));
        twins.same("one SLOT with NOTHING", 1, x -> x.equal(11, 11));
        for (int s = 0; s <= Check.SIGNAL; s++) {
            int of = s;
            twins.same("NOTHING and " + s, 0, x -> x.equal(9, of));
            twins.same(s + " and NOTHING", 0, x -> x.equal(of, 9));
            twins.same("NOTHING behind equal ones", 1, x -> x.equal(of, of) + x.equal(of, 9) + x.equal(9, of));
        }
    }

    private static void equalBad() {
        check.says(24, "BAD;");
        twins.slots("equal", (x, s) -> x.equal(s, 1));
        twins.slots("equal to", (x, s) -> x.equal(1, s));
        Twins full = new Twins(check, x -> Check.chain(x, 0, 25));
        for (int s : Check.NO_SLOTS) {
            full.same("equal of 25 and slot " + s, Check.BAD, x -> x.equal(0, s));
            full.same("equal of slot " + s + " and 25", Check.BAD, x -> x.equal(s, 0));
        }
    }

    private static void equalFull() {
        check.says(24, "FULL: those of one have no room");
        Twins objects = new Twins(check, x -> {
            Twins.allKinds(x);
            Check.chain(x, 6, 24);
            Check.chain(x, 7, 24);
            Check.chain(x, 8, 25);
        });
        objects.same("24 and 24", 1, x -> x.equal(6, 7));
        objects.same("24 and 25", Check.FULL, x -> x.equal(6, 8));
        objects.same("25 and 24", Check.FULL, x -> x.equal(8, 6));
        objects.same("25 and itself", Check.FULL, x -> x.equal(8, 8));
        objects.same("25 and one of another CLASS", Check.FULL, x -> x.equal(8, 4));
        Twins leaves = new Twins(check, x -> {
            large(x, 23);
            x.leaves(0);
            x.back(1);
            x.back(2);
            x.row(2, 19);
            x.set(10, 5, 7);
            x.make(3, Check.SIGNAL, 5);
            x.leaves(3);
            x.alter(1, 6);
        });
        leaves.same("301 and 300", Check.FULL, x -> x.equal(0, 1));
        leaves.same("300 and 301", Check.FULL, x -> x.equal(1, 0));
        leaves.same("300 and 299", 0, x -> x.equal(1, 2));
        leaves.same("300 and itself", 1, x -> x.equal(1, 1));
    }

    /** SLOTS 0 and 1 hold OBJECTS of a CLASS, which differ in all FIELDS but 9. */
    private static FieldLeaves differing(int cls) {
        FieldLeaves x = new FieldLeaves();
        for (int s = 0; s < 2; s++) {
            x.make(s, cls, s);
            for (int field = 0; field <= 14; field++) {
                x.set(s, field, s);
            }
            for (int field : new int[] {8, 11, 15}) {
                x.link(s, field, s);
            }
        }
        return x;
    }

    private static void changedInOrder() {
        check.says(25, "The k-th FIELD, by numbers, that is another one in both");
        int[][] due = {
            {0, 1, 2, 3, 4, 5, 6, 7, 8}, {0, 1, 2, 3, 4, 5, 6, 7, 8, 10, 11},
            {0, 1, 2, 3, 4, 5, 6, 7, 8, 10, 11, 12, 13}, {14, 15}, {16},
        };
        for (int cls = Check.BASE; cls <= Check.SIGNAL; cls++) {
            FieldLeaves x = differing(cls);
            for (int k = 0; k < due[cls].length; k++) {
                check.due("changed " + k + " of " + cls, x.changed(0, 1, k), due[cls][k]);
                check.due("changed " + k + " of " + cls + " round", x.changed(1, 0, k), due[cls][k]);
            }
            check.due("one more of " + cls, x.changed(0, 1, due[cls].length), Check.NONE);
        }
        FieldLeaves x = differing(Check.TIP);
        x.set(1, 0, 0);
        x.set(1, 5, 0);
        check.due("the first", x.changed(0, 1, 0), 1);
        check.due("the fifth", x.changed(0, 1, 4), 6);
    }

    private static void changedAsTold() {
        check.says(25, "(of ratio, exact, weight, as they are told;");
        FieldLeaves x = Check.oneOfEach(0);
        x.make(5, Check.BASE, 0);
        x.make(6, Check.STRAY, 0);
        x.set(0, 6, 0x7f800001L);
        x.set(5, 6, 0xffffffffL);
        x.set(0, 7, 0x7ff0000000000001L);
        x.set(5, 7, -1);
        check.due("no numbers", x.changed(0, 5, 0), Check.NONE);
        x.set(3, 14, 0xfff8000000000000L);
        x.set(6, 14, NO_DOUBLE);
        check.due("weights that are no numbers", x.changed(3, 6, 0), Check.NONE);
        x.set(0, 6, 0);
        x.set(5, 6, 0x80000000L);
        check.due("ratios 0 and -0", x.changed(0, 5, 0), 6);
        x.set(5, 6, 0);
        x.set(0, 7, 0);
        x.set(5, 7, Long.MIN_VALUE);
        check.due("exacts 0 and -0", x.changed(0, 5, 0), 7);
        x.set(3, 14, Long.MIN_VALUE);
        x.set(6, 14, 0);
        check.due("weights -0 and 0", x.changed(3, 6, 0), 14);
    }

    private static void changedLinks() {
        check.says(25, "of 8, 11, 15: not the same OBJECT");
        int[][] fields = {{Check.BASE, 8}, {Check.MIDDLE, 8}, {Check.MIDDLE, 11}, {Check.TIP, 11}, {Check.STRAY, 15}};
        for (int[] each : fields) {
            FieldLeaves x = new FieldLeaves();
            for (int s = 0; s < 4; s++) {
                x.make(s, each[0], 0);
            }
            x.link(0, each[1], 2);
            check.due("one and NOTHING", x.changed(0, 1, 0), each[1]);
            check.due("NOTHING and one", x.changed(1, 0, 0), each[1]);
            x.link(1, each[1], 3);
            check.due("two with the same LEAVES", x.changed(0, 1, 0), each[1]);
            x.link(1, each[1], 2);
            check.due("the same OBJECT", x.changed(0, 1, 0), Check.NONE);
        }
    }

    private static void changedRows() {
        check.says(25, "of 9 another row by its ints");
        FieldLeaves x = Check.oneOfEach(0);
        x.make(5, Check.BASE, 0);
        x.row(0, 2);
        check.due("a row and NOTHING", x.changed(0, 5, 0), 9);
        check.due("NOTHING and a row", x.changed(5, 0, 0), 9);
        x.row(5, 2);
        check.due("two rows with the same ints", x.changed(0, 5, 0), Check.NONE);
        for (int i = 0; i < 2; i++) {
            x.put(5, i, 1);
            check.due("another int at " + i, x.changed(0, 5, 0), 9);
            x.put(5, i, 0);
        }
        x.row(5, 1);
        check.due("one int fewer", x.changed(0, 5, 0), 9);
        x.row(5, 3);
        check.due("one int more", x.changed(0, 5, 0), 9);
        x.row(0, 0);
        x.row(5, 0);
        check.due("no ints in both", x.changed(0, 5, 0), Check.NONE);
    }

    private static void changedNone() {
        check.says(25, "NONE: there is none such");
        for (int k : new int[] {0, 1, MOST}) {
            for (int s = 0; s <= Check.SIGNAL; s++) {
                int of = s;
                twins.same("changed from itself", Check.NONE, x -> x.changed(of, of, k));
            }
            twins.same("changed from the same OBJECT", Check.NONE, x -> x.changed(2, 5, k));
        }
        FieldLeaves x = differing(Check.SIGNAL);
        check.due("the only one", x.changed(0, 1, 0), 16);
        check.due("one more", x.changed(0, 1, 1), Check.NONE);
        check.due("the last k", x.changed(0, 1, MOST), Check.NONE);
    }

    private static void changedBad() {
        check.says(25, "BAD: also k below 0");
        for (int k : new int[] {-1, Check.NONE, LEAST}) {
            twins.same("changed " + k, Check.BAD, x -> x.changed(2, 5, k));
            twins.same("changed " + k + " of NOTHING", Check.BAD, x -> x.changed(9, 5, k));
            twins.same("changed " + k + " of other CLASSES", Check.BAD, x -> x.changed(0, 5, k));
        }
        twins.slots("changed", (x, s) -> x.changed(s, 1, 0));
        twins.slots("changed to", (x, s) -> x.changed(1, s, 0));
    }

    private static void changedFirstFailure() {
        check.says(25, "FAILURES, the first: 1; 4: the CLASSES are not the same");
        twins.same("NOTHING in both", Check.NOTHING, x -> x.changed(9, 10, 0));
        twins.same("NOTHING in one SLOT", Check.NOTHING, x -> x.changed(9, 9, 0));
        for (int s = 0; s <= Check.SIGNAL; s++) {
            int one = s;
            twins.same(s + " and NOTHING: 1 ahead of 4", Check.NOTHING, x -> x.changed(one, 9, 0));
            twins.same("NOTHING and " + s + ": 1 ahead of 4", Check.NOTHING, x -> x.changed(9, one, 0));
            for (int t = 0; t <= Check.SIGNAL; t++) {
                int other = t;
                if (s != t) {
                    twins.same("CLASSES " + s + " and " + t, Check.CLASS, x -> x.changed(one, other, MOST));
                }
            }
        }
    }
}
