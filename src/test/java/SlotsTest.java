/** Promises 1 to 7: a new object, make, clear, share, same, cls, is. */
public final class SlotsTest {
    private static final Check check = new Check();

    public static void main(String[] args) {
        newObject();
        make();
        makeBad();
        clear();
        share();
        same();
        cls();
        is();
        check.end();
    }

    private static void newObject() {
        FieldLeaves x = new FieldLeaves();
        for (int s = 0; s < 12; s++) {
            check.due("new: cls " + s, x.cls(s), Check.NONE);
        }
        check.due("new: leaf", x.leaf(0, 0), Check.BAD);
        check.due("new: back", x.back(0), Check.FULL);
    }

    private static void make() {
        FieldLeaves x = new FieldLeaves();
        for (int s = 0; s < 12; s++) {
            check.due("make in slot " + s, x.make(s, s % 5, 7), 1);
            check.due("made in slot " + s, x.cls(s), s % 5);
        }
        for (int field : new int[] {0, 1, 2, 3, 4, 5, 6, 7, 10, 12}) {
            check.due("made: field " + field, x.get(2, field), 0);
        }
        check.due("made: weight", x.get(3, 14), 0);
        check.due("made: mark", x.get(2, 13), 7);
        check.due("made: code", x.get(4, 16), 7);
        check.due("made: no row", x.length(2), Check.NOTHING);
        check.due("made: no link", x.call(2, 2), 0);
        for (int n : new int[] {-1, 1001, Integer.MIN_VALUE, Integer.MAX_VALUE}) {
            check.due("make TIP " + n, x.make(0, Check.TIP, n), Check.MAKER);
            check.due("slot after a maker failed", x.cls(0), Check.BASE);
            check.due("make BASE " + n, x.make(5, Check.BASE, n), 1);
            check.due("make MIDDLE " + n, x.make(5, Check.MIDDLE, n), 1);
            check.due("make STRAY " + n, x.make(5, Check.STRAY, n), 1);
            check.due("make SIGNAL " + n, x.make(5, Check.SIGNAL, n), 1);
            check.due("code " + n, x.get(5, 16), n);
        }
        check.due("make TIP 0", x.make(0, Check.TIP, 0), 1);
        check.due("make TIP 1000", x.make(0, Check.TIP, 1000), 1);
        check.due("mark 1000", x.get(0, 13), 1000);
        x.share(0, 1);
        x.make(0, Check.TIP, 0);
        check.due("make is a new one", x.same(0, 1), 0);
    }

    private static void makeBad() {
        FieldLeaves x = new FieldLeaves();
        for (int s : Check.NO_SLOTS) {
            check.due("make slot " + s, x.make(s, Check.BASE, 0), Check.BAD);
            check.due("make is BAD ahead of failing", x.make(s, Check.TIP, -1), Check.BAD);
        }
        for (int cls : new int[] {-1, 5, Integer.MIN_VALUE, Integer.MAX_VALUE}) {
            check.due("make class " + cls, x.make(0, cls, 0), Check.BAD);
        }
        check.due("BAD made nothing", x.cls(0), Check.NONE);
    }

    private static void clear() {
        FieldLeaves x = Check.oneOfEach(0);
        check.due("clear", x.clear(1), 1);
        check.due("cleared", x.cls(1), Check.NONE);
        check.due("clear again", x.clear(1), 0);
        check.due("clear leaves the others", x.cls(2), Check.TIP);
        check.due("clear slot 11", x.clear(11), 0);
        for (int s : Check.NO_SLOTS) {
            check.due("clear slot " + s, x.clear(s), Check.BAD);
        }
    }

    private static void share() {
        FieldLeaves x = Check.oneOfEach(0);
        check.due("share", x.share(2, 11), 1);
        check.due("shared", x.same(2, 11), 1);
        x.set(11, 4, 9);
        check.due("shared, not copied", x.get(2, 4), 9);
        check.due("share NOTHING", x.share(9, 2), 1);
        check.due("shared NOTHING", x.cls(2), Check.NONE);
        check.due("the other stays", x.cls(11), Check.TIP);
        check.due("share with itself", x.share(11, 11), 1);
        check.due("shared with itself", x.cls(11), Check.TIP);
        for (int s : Check.NO_SLOTS) {
            check.due("share slot " + s, x.share(s, 0), Check.BAD);
            check.due("share to slot " + s, x.share(0, s), Check.BAD);
        }
        check.due("BAD shared nothing", x.cls(0), Check.BASE);
    }

    private static void same() {
        FieldLeaves x = Check.oneOfEach(0);
        x.make(5, Check.BASE, 0);
        check.due("same: like, not the same", x.same(0, 5), 0);
        check.due("same: itself", x.same(0, 0), 1);
        check.due("same: NOTHING twice", x.same(6, 7), 1);
        check.due("same: one NOTHING", x.same(0, 7), 0);
        check.due("same: NOTHING and one", x.same(7, 0), 0);
        for (int s : Check.NO_SLOTS) {
            check.due("same slot " + s, x.same(s, 0), Check.BAD);
            check.due("same with slot " + s, x.same(0, s), Check.BAD);
            check.due("same twice " + s, x.same(s, s), Check.BAD);
        }
    }

    private static void cls() {
        FieldLeaves x = Check.oneOfEach(0);
        for (int s = 0; s < 5; s++) {
            check.due("cls " + s, x.cls(s), s);
        }
        check.due("cls of NOTHING", x.cls(5), Check.NONE);
        for (int s : Check.NO_SLOTS) {
            check.due("cls slot " + s, x.cls(s), Check.BAD);
        }
    }

    private static void is() {
        FieldLeaves x = Check.oneOfEach(0);
        int[][] due = {
            {1, 0, 0, 0, 0, 1},
            {1, 1, 0, 0, 0, 1},
            {1, 1, 1, 0, 0, 1},
            {0, 0, 0, 1, 0, 1},
            {0, 0, 0, 0, 1, 0},
            {0, 0, 0, 0, 0, 0},
        };
        for (int s = 0; s < due.length; s++) {
            for (int cls = 0; cls < 6; cls++) {
                check.due("is " + s + " of " + cls, x.is(s, cls), due[s][cls]);
            }
        }
        for (int s : Check.NO_SLOTS) {
            check.due("is slot " + s, x.is(s, 0), Check.BAD);
        }
        for (int cls : new int[] {-1, 6, Integer.MIN_VALUE, Integer.MAX_VALUE}) {
            check.due("is class " + cls, x.is(0, cls), Check.BAD);
            check.due("is class " + cls + " of NOTHING", x.is(9, cls), Check.BAD);
        }
    }
}
