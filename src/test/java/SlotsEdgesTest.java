/** The boundary cases that promises 1 to 7 name, a test for each sentence. */
public final class SlotsEdgesTest {
    private static final Check check = new Check();
    private static final Twins twins = new Twins(check);

    public static void main(String[] args) {
        newSlots();
        newLeaves();
        makeNew();
        makeDoesNotCount();
        makeBad();
        makeFails();
        clear();
        clearBad();
        share();
        shareBad();
        same();
        sameBad();
        cls();
        clsBad();
        isBelow();
        isNothing();
        isBad();
        check.end();
    }

    private static void newSlots() {
        check.says(1, "All SLOTS hold NOTHING");
        Check.oneOfEach(0);
        FieldLeaves x = new FieldLeaves();
        for (int s = 0; s < 12; s++) {
            check.due("cls " + s, x.cls(s), Check.NONE);
            check.due("same " + s, x.same(0, s), 1);
            check.due("clear " + s, x.clear(s), 0);
        }
    }

    private static void newLeaves() {
        check.says(1, "no LEAVES");
        Check.oneOfEach(0).leaves(0);
        FieldLeaves x = new FieldLeaves();
        for (int what = 0; what < 3; what++) {
            check.due("leaf 0, " + what, x.leaf(0, what), Check.BAD);
        }
        check.due("alter 0", x.alter(0, 1), Check.BAD);
        check.due("back", x.back(0), Check.FULL);
    }

    private static void makeNew() {
        check.says(2, "A new OBJECT of a CLASS in a SLOT, its maker told n");
        FieldLeaves x = new FieldLeaves();
        for (int cls = Check.BASE; cls <= Check.SIGNAL; cls++) {
            check.due("make " + cls, x.make(0, cls, 3), 1);
            check.due("cls of " + cls, x.cls(0), cls);
            x.share(0, 1);
            check.due("make " + cls + " again", x.make(0, cls, 4), 1);
            check.due("a new one", x.same(0, 1), 0);
            check.due("the one before it", x.cls(1), cls);
        }
        check.due("code of the new one", x.get(0, 16), 4);
        check.due("code of the one before it", x.get(1, 16), 3);
    }

    private static void makeDoesNotCount() {
        check.says(2, "(of BASE, MIDDLE, STRAY it does not count)");
        FieldLeaves x = new FieldLeaves();
        for (int cls : new int[] {Check.BASE, Check.MIDDLE, Check.STRAY}) {
            for (int n : new int[] {-1, 1001, Integer.MIN_VALUE, Integer.MAX_VALUE}) {
                check.due("make " + cls + " of " + n, x.make(0, cls, n), 1);
                check.due("leaves of " + cls + " of " + n, x.leaves(0), 1);
            }
        }
    }

    private static void makeBad() {
        check.says(2, "BAD.");
        twins.slots("make", (x, s) -> x.make(s, Check.BASE, 0));
        for (int cls : new int[] {-1, 5, Integer.MIN_VALUE, Integer.MAX_VALUE}) {
            twins.same("make " + cls, Check.BAD, x -> x.make(0, cls, 0));
        }
    }

    private static void makeFails() {
        check.says(2, "FAILURE 8.");
        FieldLeaves x = new FieldLeaves();
        for (int n : new int[] {-1, 1001}) {
            twins.same("make a TIP of " + n, Check.MAKER, y -> y.make(0, Check.TIP, n));
            check.due("make a TIP of " + n, x.make(0, Check.TIP, n), Check.MAKER);
            check.due("the SLOT that held NOTHING", x.cls(0), Check.NONE);
        }
        check.due("make a TIP of 0", x.make(0, Check.TIP, 0), 1);
        check.due("make a TIP of 1000", x.make(0, Check.TIP, 1000), 1);
    }

    private static void clear() {
        check.says(3, "A SLOT holds NOTHING: whether it held something (1, 0)");
        FieldLeaves x = Check.oneOfEach(0);
        x.share(2, 11);
        for (int s : new int[] {0, 1, 2, 3, 4}) {
            check.due("clear " + s, x.clear(s), 1);
            check.due("cls " + s, x.cls(s), Check.NONE);
            check.due("clear " + s + " again", x.clear(s), 0);
            check.due("cls again " + s, x.cls(s), Check.NONE);
        }
        check.due("another SLOT with the same OBJECT", x.cls(11), Check.TIP);
        twins.same("clear what holds NOTHING", 0, y -> y.clear(9));
    }

    private static void clearBad() {
        check.says(3, "BAD.");
        twins.slots("clear", (x, s) -> x.clear(s));
    }

    private static void share() {
        check.says(4, "SLOT t holds what s holds: 1");
        FieldLeaves x = Check.oneOfEach(0);
        check.due("share 0 to 11", x.share(0, 11), 1);
        check.due("11 and 0", x.same(0, 11), 1);
        check.due("share NOTHING to 11", x.share(9, 11), 1);
        check.due("cls 11", x.cls(11), Check.NONE);
        check.due("cls 0", x.cls(0), Check.BASE);
        twins.same("share with itself", 1, y -> y.share(3, 3));
        twins.same("share NOTHING with NOTHING", 1, y -> y.share(8, 9));
        twins.same("share what is the same", 1, y -> y.share(2, 5));
    }

    private static void shareBad() {
        check.says(4, "BAD.");
        twins.slots("share from", (x, s) -> x.share(s, 1));
        twins.slots("share to", (x, s) -> x.share(1, s));
        twins.same("share from and to", Check.BAD, x -> x.share(-1, -1));
    }

    private static void same() {
        check.says(5, "Whether both hold the same OBJECT (or NOTHING): 1, 0");
        FieldLeaves x = Check.oneOfEach(0);
        x.make(5, Check.BASE, 0);
        x.share(0, 11);
        check.due("the same OBJECT", x.same(0, 11), 1);
        check.due("one SLOT", x.same(0, 0), 1);
        check.due("another OBJECT, equal in all", x.same(0, 5), 0);
        check.due("NOTHING in both", x.same(9, 10), 1);
        check.due("NOTHING in one SLOT", x.same(9, 9), 1);
        check.due("NOTHING in the first", x.same(9, 0), 0);
        check.due("NOTHING in the second", x.same(0, 9), 0);
    }

    private static void sameBad() {
        check.says(5, "BAD.");
        twins.slots("same", (x, s) -> x.same(s, 1));
        twins.slots("same with", (x, s) -> x.same(1, s));
        twins.same("same twice", Check.BAD, x -> x.same(12, 12));
    }

    private static void cls() {
        check.says(6, "Its CLASS; NONE.");
        for (int cls = Check.BASE; cls <= Check.SIGNAL; cls++) {
            int due = cls;
            twins.same("cls " + cls, due, x -> x.cls(due));
        }
        twins.same("cls of NOTHING", Check.NONE, x -> x.cls(11));
    }

    private static void clsBad() {
        check.says(6, "BAD.");
        twins.slots("cls", (x, s) -> x.cls(s));
    }

    private static void isBelow() {
        check.says(7, "Whether what it holds is of a CLASS, or below it (5: LINKED): 1, 0");
        int[][] due = {
            {1, 0, 0, 0, 0, 1},
            {1, 1, 0, 0, 0, 1},
            {1, 1, 1, 0, 0, 1},
            {0, 0, 0, 1, 0, 1},
            {0, 0, 0, 0, 1, 0},
        };
        FieldLeaves x = Check.oneOfEach(0);
        for (int s = 0; s < due.length; s++) {
            for (int cls = Check.BASE; cls <= Check.LINKED; cls++) {
                check.due("is " + s + " of " + cls, x.is(s, cls), due[s][cls]);
            }
        }
    }

    private static void isNothing() {
        check.says(7, "(NOTHING, too)");
        FieldLeaves x = Check.oneOfEach(0);
        for (int cls = Check.BASE; cls <= Check.LINKED; cls++) {
            check.due("is NOTHING of " + cls, x.is(11, cls), 0);
        }
    }

    private static void isBad() {
        check.says(7, "BAD: cls is not 0 .. 5");
        for (int cls : new int[] {-1, 6, Integer.MIN_VALUE, Integer.MAX_VALUE}) {
            twins.same("is of " + cls, Check.BAD, x -> x.is(0, cls));
            twins.same("is NOTHING of " + cls, Check.BAD, x -> x.is(9, cls));
        }
        twins.slots("is", (x, s) -> x.is(s, 0));
    }
}
