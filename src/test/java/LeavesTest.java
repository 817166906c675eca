/** Promises 20 to 25: leaves, leaf, alter, back, equal, changed. */
public final class LeavesTest {
    private static final Check check = new Check();

    public static void main(String[] args) {
        leavesOfFields();
        leavesOfLinks();
        leavesFail();
        roomForObjects();
        roomForLeaves();
        leafBad();
        alter();
        back();
        backByLowestBits();
        backFails();
        backStartsAnew();
        equal();
        equalWithoutRoom();
        changed();
        changedFails();
        check.end();
    }

    /** The LEAVES are these, each as the OBJECT's number, FIELD and VALUE. */
    private static void told(FieldLeaves x, String of, long[]... due) {
        for (int k = 0; k < due.length; k++) {
            for (int what = 0; what < 3; what++) {
                check.due(of + ": leaf " + k + ", " + what, x.leaf(k, what), due[k][what]);
            }
        }
        check.due(of + ": no more leaves", x.leaf(due.length, 0), Check.BAD);
    }

    private static long[] leaf(long number, long field, long value) {
        return new long[] {number, field, value};
    }

    private static void leavesOfFields() {
        FieldLeaves x = Check.oneOfEach(9);
        check.due("leaves of a BASE", x.leaves(0), 1);
        told(x, "BASE", leaf(0, -1, 0));
        check.due("leaves of a SIGNAL", x.leaves(4), 2);
        told(x, "SIGNAL", leaf(0, -1, 4), leaf(0, 16, 9));
        x.make(5, Check.SIGNAL, 0);
        check.due("leaves of a SIGNAL of 0", x.leaves(5), 1);
        x.set(3, 14, Long.MIN_VALUE);
        x.link(3, 15, 3);
        check.due("leaves of a STRAY", x.leaves(3), 3);
        told(x, "STRAY", leaf(0, -1, 3), leaf(0, 14, Long.MIN_VALUE), leaf(0, 15, 0));
        long[] values = {1, -2, -3, 40000, 5, 6, 0x80000000L, -1, 0, 0, 10, 0, 12};
        for (int field = 0; field <= 12; field++) {
            x.set(2, field, values[field]);
        }
        x.link(2, 8, 2);
        x.link(2, 11, 2);
        x.row(2, 3);
        x.put(2, 1, -8);
        check.due("leaves of a TIP", x.leaves(2), 18);
        told(x, "TIP", leaf(0, -1, 2), leaf(0, 0, 1), leaf(0, 1, -2), leaf(0, 2, -3), leaf(0, 3, 40000),
                leaf(0, 4, 5), leaf(0, 5, 6), leaf(0, 6, Integer.MIN_VALUE), leaf(0, 7, 0x7ff8000000000000L),
                leaf(0, 8, 0), leaf(0, 9, 3), leaf(0, 100, 0), leaf(0, 101, -8), leaf(0, 102, 0),
                leaf(0, 10, 10), leaf(0, 11, 0), leaf(0, 12, 12), leaf(0, 13, 9));
        x.row(1, 0);
        check.due("leaves of a row of none", x.leaves(1), 2);
        told(x, "row of none", leaf(0, -1, 1), leaf(0, 9, 0));
        x.set(2, 4, 77);
        x.set(1, 4, 77);
        told(x, "leaves do not follow the OBJECT", leaf(0, -1, 1), leaf(0, 9, 0));
    }

    private static void leavesOfLinks() {
        FieldLeaves x = new FieldLeaves();
        x.make(0, Check.STRAY, 0);
        x.make(1, Check.TIP, 0);
        x.make(2, Check.BASE, 0);
        x.make(3, Check.MIDDLE, 0);
        x.make(4, Check.BASE, 0);
        x.link(0, 15, 1);
        x.link(1, 8, 2);
        x.link(1, 11, 3);
        x.link(2, 8, 4);
        x.link(3, 8, 2);
        x.link(3, 11, 1);
        x.link(4, 8, 4);
        // 2 and 3 come ahead of 4, which only 2 leads to.
        check.due("leaves of five", x.leaves(0), 12);
        told(x, "five", leaf(0, -1, 3), leaf(0, 15, 1),
                leaf(1, -1, 2), leaf(1, 8, 2), leaf(1, 11, 3),
                leaf(2, -1, 0), leaf(2, 8, 4),
                leaf(3, -1, 1), leaf(3, 8, 2), leaf(3, 11, 1),
                leaf(4, -1, 0), leaf(4, 8, 4));
    }

    private static void leavesFail() {
        FieldLeaves x = Check.oneOfEach(9);
        x.leaves(4);
        check.due("leaves of NOTHING", x.leaves(9), Check.NOTHING);
        for (int s : Check.NO_SLOTS) {
            check.due("leaves of slot " + s, x.leaves(s), Check.BAD);
        }
        told(x, "those that there were", leaf(0, -1, 4), leaf(0, 16, 9));
    }

    private static void roomForObjects() {
        FieldLeaves x = new FieldLeaves();
        Check.chain(x, 0, 24);
        check.due("leaves of 24", x.leaves(0), 47);
        check.due("back of 24", x.back(1), 24);
        x.make(2, Check.SIGNAL, 5);
        x.leaves(2);
        Check.chain(x, 0, 25);
        check.due("leaves of 25", x.leaves(0), Check.FULL);
        told(x, "those that there were", leaf(0, -1, 4), leaf(0, 16, 5));
    }

    /** SLOT s holds the first of BASES with 300 LEAVES in all, 11 of them with rows of 20. */
    private static void threeHundred(FieldLeaves x, int s) {
        Check.chain(x, s, 13);
        x.share(s, 10);
        for (int i = 0; i < 12; i++) {
            x.row(10, i < 11 ? 20 : 19);
            x.follow(10, 8, 10);
        }
        // 13 CLASSES, 12 links, 12 lengths, 239 ints: 276; the last one has room for 24 more.
        x.row(10, 19);
        for (int field = 0; field <= 3; field++) {
            x.set(10, field, 1);
        }
    }

    private static void roomForLeaves() {
        FieldLeaves x = new FieldLeaves();
        threeHundred(x, 0);
        check.due("leaves of 300", x.leaves(0), 300);
        check.due("leaf 299 is a place", x.leaf(299, 1), 118);
        check.due("leaf 300", x.leaf(300, 1), Check.BAD);
        check.due("back of 300", x.back(1), 13);
        check.due("back of 300 is equal", x.equal(0, 1), 1);
        x.set(10, 4, 1);
        check.due("leaves of 301", x.leaves(0), Check.FULL);
        check.due("those that there were stay", x.leaf(299, 1), 118);
        check.due("no more than those", x.leaf(300, 1), Check.BAD);
        check.due("and make what they made", x.back(2), 13);
        check.due("as it was", x.equal(1, 2), 1);
    }

    private static void leafBad() {
        FieldLeaves x = Check.oneOfEach(9);
        x.leaves(2);
        for (int k : new int[] {-1, 2, 300, Integer.MIN_VALUE, Integer.MAX_VALUE}) {
            check.due("leaf " + k, x.leaf(k, 0), Check.BAD);
        }
        for (int what : new int[] {-1, 3, Integer.MIN_VALUE, Integer.MAX_VALUE}) {
            check.due("leaf, what " + what, x.leaf(0, what), Check.BAD);
        }
    }

    private static void alter() {
        FieldLeaves x = Check.oneOfEach(9);
        x.row(2, 1);
        x.set(2, 0, 1);
        x.leaves(2);
        long[] given = {2, 3, 1, Long.MIN_VALUE, 0};
        for (int k : new int[] {1, 3, 4}) {
            check.due("alter " + k, x.alter(k, given[k]), 1);
        }
        check.due("alter a CLASS", x.alter(0, 1), Check.BAD);
        check.due("alter a length", x.alter(2, 2), Check.BAD);
        for (int k : new int[] {-1, 5, 300, Integer.MIN_VALUE, Integer.MAX_VALUE}) {
            check.due("alter " + k, x.alter(k, 1), Check.BAD);
        }
        told(x, "kept as given", leaf(0, -1, 2), leaf(0, 0, 3), leaf(0, 9, 1), leaf(0, 100, Long.MIN_VALUE),
                leaf(0, 13, 0));
        check.due("alter changes no OBJECT", x.get(2, 13), 9);
        check.due("alter without leaves", new FieldLeaves().alter(0, 1), Check.BAD);
    }

    private static void back() {
        FieldLeaves x = Check.oneOfEach(9);
        x.set(2, 5, Long.MIN_VALUE);
        x.set(2, 6, -1);
        x.row(2, 2);
        x.put(2, 0, 4);
        x.link(2, 8, 1);
        x.link(2, 11, 1);
        x.link(1, 11, 2);
        x.link(3, 15, 2);
        x.set(3, 14, 8);
        x.leaves(3);
        check.due("back", x.back(6), 3);
        check.due("made another", x.same(3, 6), 0);
        check.due("with the same leaves", x.equal(3, 6), 1);
        x.follow(6, 15, 7);
        x.follow(7, 8, 8);
        x.follow(7, 11, 9);
        x.follow(9, 11, 10);
        check.due("one OBJECT by two links", x.same(8, 9), 1);
        check.due("a ring", x.same(10, 7), 1);
        check.due("rows are apart", x.put(7, 0, 5), 4);
        check.due("the first row stays", x.put(2, 0, 4), 4);
        check.due("back again", x.back(6), 3);
        check.due("told as it was", x.equal(3, 6), 1);
        x.leaves(4);
        check.due("back of a SIGNAL", x.back(4), 1);
        check.due("its code", x.raise(4), 9);
        x.make(5, Check.TIP, 0);
        x.row(5, 0);
        x.leaves(5);
        check.due("back of a TIP without a mark", x.back(5), 1);
        check.due("its mark", x.get(5, 13), 0);
        check.due("its row of none", x.length(5), 0);
    }

    /** Makes an OBJECT with a FIELD that is 1, gives its LEAF a VALUE and looks at what is made. */
    private static void backWith(int cls, int field, long given, long told) {
        FieldLeaves x = new FieldLeaves();
        x.make(0, cls, 1);
        x.set(0, field, 1);
        x.leaves(0);
        x.alter(1, given);
        check.due("back with " + field + " " + given, x.back(1), 1);
        check.due("made with " + field + " " + given, x.get(1, field), told);
    }

    private static void backByLowestBits() {
        backWith(Check.BASE, 0, 2, 0);
        backWith(Check.BASE, 0, 3, 1);
        backWith(Check.BASE, 1, 255, -1);
        backWith(Check.BASE, 2, 65535, -1);
        backWith(Check.BASE, 3, -1, 65535);
        backWith(Check.BASE, 4, 1L << 32, 0);
        backWith(Check.BASE, 5, 1L << 32, 1L << 32);
        backWith(Check.BASE, 6, 0xff800001L, 0x7fc00000L);
        backWith(Check.BASE, 7, -1, 0x7ff8000000000000L);
        backWith(Check.MIDDLE, 10, (1L << 32) - 7, -7);
        backWith(Check.STRAY, 14, 0xfff8000000000000L, 0x7ff8000000000000L);
        backWith(Check.TIP, 13, (1L << 32) + 1000, 1000);
        backWith(Check.TIP, 13, 0, 0);
        backWith(Check.SIGNAL, 16, (1L << 32) - 3, -3);
        FieldLeaves x = Check.oneOfEach(0);
        x.row(0, 1);
        x.leaves(0);
        x.alter(2, (1L << 32) - 6);
        x.back(0);
        check.due("a place by its lowest bits", x.put(0, 0, 0), -6);
    }

    /** LEAVES of a STRAY (0), which leads to a TIP (1), which leads to a BASE (2) and a MIDDLE (3). */
    private static FieldLeaves four() {
        FieldLeaves x = Check.oneOfEach(9);
        x.link(3, 15, 2);
        x.link(2, 8, 0);
        x.link(2, 11, 1);
        x.link(1, 8, 0);
        check.due("leaves of four", x.leaves(3), 9);
        return x;
    }

    private static void backFails() {
        FieldLeaves x = four();
        for (long number : new long[] {-1, 4, Long.MAX_VALUE}) {
            x.alter(1, number);
            check.due("back to number " + number, x.back(9), Check.PLACE);
        }
        x.alter(1, 0);
        check.due("a STRAY in 15", x.back(9), 4);
        x.follow(9, 15, 10);
        check.due("it is itself", x.same(9, 10), 1);
        x.clear(9);
        x.alter(3, 0);
        check.due("a STRAY in 8", x.back(9), Check.CLASS);
        x.alter(3, 1);
        x.alter(4, 2);
        check.due("a BASE in 11", x.back(9), Check.CLASS);
        x.alter(8, 4);
        check.due("the first that comes: 4", x.back(9), Check.CLASS);
        x.alter(4, 1);
        check.due("the next that comes: 2", x.back(9), Check.PLACE);
        for (long mark : new long[] {-1, 1001, 1L << 31}) {
            x.alter(5, mark);
            check.due("makers ahead of all: " + mark, x.back(9), Check.MAKER);
        }
        check.due("slot stays", x.cls(9), Check.NONE);
        x.alter(5, 1000);
        x.alter(8, 2);
        check.due("all is right again", x.back(9), 4);
        for (int s : Check.NO_SLOTS) {
            check.due("back to slot " + s, x.back(s), Check.BAD);
            check.due("back to slot " + s + " without leaves", new FieldLeaves().back(s), Check.BAD);
        }
    }

    private static void backStartsAnew() {
        FieldLeaves x = four();
        x.alter(4, 0);
        check.due("back fails halfway", x.back(9), Check.CLASS);
        x.alter(4, 3);
        check.due("back after that", x.back(9), 4);
        check.due("with the same leaves", x.equal(9, 3), 1);
        // Number 0 leads to itself alone; the others are made and counted all the same.
        x.alter(1, 0);
        check.due("how many are made", x.back(9), 4);
        check.due("how many are found", x.leaves(9), 2);
    }

    private static void equal() {
        FieldLeaves x = four();
        check.due("equal: itself", x.equal(3, 3), 1);
        check.due("equal: NOTHING twice", x.equal(9, 10), 1);
        check.due("equal: one NOTHING", x.equal(0, 9), 0);
        check.due("equal: NOTHING and one", x.equal(9, 0), 0);
        for (int s = 0; s < 5; s++) {
            for (int t = 0; t < 5; t++) {
                check.due("equal " + s + " " + t, x.equal(s, t), s == t ? 1 : 0);
            }
        }
        x.back(6);
        check.due("equal: made again", x.equal(3, 6), 1);
        x.follow(6, 15, 7);
        x.follow(7, 11, 8);
        x.set(8, 3, 1);
        check.due("equal: another far away", x.equal(3, 6), 0);
        x.set(8, 3, 0);
        x.link(8, 8, 7);
        check.due("equal: linked in another way", x.equal(3, 6), 0);
        check.due("equal keeps the leaves", x.leaf(8, 1), 8);
        check.due("equal keeps how many", x.leaf(9, 1), Check.BAD);
        x = new FieldLeaves();
        x.make(0, Check.BASE, 0);
        x.make(1, Check.BASE, 0);
        x.set(0, 6, 0x7f800001L);
        x.set(1, 6, -1);
        check.due("equal: no numbers", x.equal(0, 1), 1);
        x.set(0, 6, 0);
        x.set(1, 6, 0x80000000L);
        check.due("equal: 0 and -0", x.equal(0, 1), 0);
        x.set(1, 6, 0);
        x.set(0, 4, 1);
        x.set(1, 5, 1);
        check.due("equal: the same VALUE in another FIELD", x.equal(0, 1), 0);
        x.set(0, 4, 0);
        x.set(1, 5, 0);
        for (int s : Check.NO_SLOTS) {
            check.due("equal slot " + s, x.equal(s, 0), Check.BAD);
            check.due("equal to slot " + s, x.equal(0, s), Check.BAD);
        }
    }

    private static void equalWithoutRoom() {
        FieldLeaves x = new FieldLeaves();
        x.make(2, Check.SIGNAL, 5);
        x.leaves(2);
        Check.chain(x, 0, 24);
        Check.chain(x, 1, 24);
        check.due("equal: 24", x.equal(0, 1), 1);
        Check.chain(x, 1, 25);
        check.due("equal: 24 and 25", x.equal(0, 1), Check.FULL);
        check.due("equal: 25 and 24", x.equal(1, 0), Check.FULL);
        check.due("equal: 25 and the same", x.equal(1, 1), Check.FULL);
        check.due("equal: BAD ahead", x.equal(1, 12), Check.BAD);
        told(x, "those that there were", leaf(0, -1, 4), leaf(0, 16, 5));
        x = new FieldLeaves();
        threeHundred(x, 0);
        check.due("equal: 300", x.equal(0, 0), 1);
        x.set(10, 4, 1);
        check.due("equal: 301", x.equal(0, 0), Check.FULL);
    }

    private static void changed() {
        FieldLeaves x = new FieldLeaves();
        for (int s = 0; s < 2; s++) {
            x.make(s, Check.TIP, s);
            for (int field = 0; field <= 12; field++) {
                x.set(s, field, s);
            }
            x.row(s, 2 + s);
            x.link(s, 8, s);
            x.link(s, 11, s);
        }
        for (int field = 0; field <= 13; field++) {
            check.due("changed " + field, x.changed(0, 1, field), field);
        }
        check.due("changed, no more", x.changed(0, 1, 14), Check.NONE);
        check.due("changed, far more", x.changed(0, 1, Integer.MAX_VALUE), Check.NONE);
        check.due("changed from itself", x.changed(0, 0, 0), Check.NONE);
        x.set(1, 0, 0);
        x.set(1, 2, 0);
        check.due("changed, the next by number", x.changed(0, 1, 1), 3);
        changedRows();
        changedNumbers();
        x = Check.oneOfEach(1);
        x.make(6, Check.STRAY, 0);
        x.make(7, Check.SIGNAL, 2);
        x.link(6, 15, 0);
        check.due("changed 15", x.changed(3, 6, 0), 15);
        x.set(3, 14, 1);
        check.due("changed 14", x.changed(3, 6, 0), 14);
        check.due("changed 14, then 15", x.changed(3, 6, 1), 15);
        check.due("changed 16", x.changed(4, 7, 0), 16);
        x.make(8, Check.BASE, 0);
        x.make(9, Check.BASE, 0);
        x.make(10, Check.BASE, 0);
        x.link(9, 8, 8);
        x.link(10, 8, 8);
        check.due("linked to the same OBJECT", x.changed(9, 10, 0), Check.NONE);
        x.link(10, 8, 0);
        check.due("linked to another that is equal", x.changed(9, 10, 0), 8);
    }

    private static void changedRows() {
        FieldLeaves x = new FieldLeaves();
        x.make(0, Check.BASE, 0);
        x.make(1, Check.BASE, 0);
        x.row(0, 2);
        check.due("a row and NOTHING", x.changed(0, 1, 0), 9);
        check.due("NOTHING and a row", x.changed(1, 0, 0), 9);
        x.row(1, 2);
        check.due("rows of the same ints", x.changed(0, 1, 0), Check.NONE);
        x.put(1, 1, 3);
        check.due("rows of other ints", x.changed(0, 1, 0), 9);
        x.row(1, 1);
        check.due("a shorter row", x.changed(0, 1, 0), 9);
    }

    private static void changedNumbers() {
        FieldLeaves x = new FieldLeaves();
        x.make(0, Check.BASE, 0);
        x.make(1, Check.BASE, 0);
        x.set(0, 6, 0x7f800001L);
        x.set(1, 6, 0xffffffffL);
        x.set(0, 7, 0x7ff0000000000001L);
        x.set(1, 7, -1);
        check.due("no numbers are told alike", x.changed(0, 1, 0), Check.NONE);
        x.set(0, 7, 0);
        x.set(1, 7, Long.MIN_VALUE);
        check.due("0 and -0 are not", x.changed(0, 1, 0), 7);
    }

    private static void changedFails() {
        FieldLeaves x = Check.oneOfEach(1);
        check.due("changed NOTHING", x.changed(9, 10, 0), Check.NOTHING);
        for (int s = 0; s < 5; s++) {
            check.due("changed and NOTHING", x.changed(s, 9, 0), Check.NOTHING);
            check.due("changed NOTHING and", x.changed(9, s, 0), Check.NOTHING);
            for (int t = 0; t < 5; t++) {
                check.due("changed " + s + " " + t, x.changed(s, t, 0), s == t ? Check.NONE : Check.CLASS);
            }
        }
        for (int k : new int[] {-1, Integer.MIN_VALUE}) {
            check.due("changed " + k, x.changed(0, 0, k), Check.BAD);
            check.due("changed " + k + " of NOTHING", x.changed(9, 0, k), Check.BAD);
        }
        for (int s : Check.NO_SLOTS) {
            check.due("changed slot " + s, x.changed(s, 0, 0), Check.BAD);
            check.due("changed to slot " + s, x.changed(0, s, 0), Check.BAD);
        }
    }
}
