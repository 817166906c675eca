import java.util.Arrays;

/** The boundary cases that promises 8 to 15 name, a test for each sentence. */
public final class FieldsEdgesTest {
    private static final Check check = new Check();
    private static final Twins twins = new Twins(check);
    private static final int LEAST = Integer.MIN_VALUE, MOST = Integer.MAX_VALUE;
    private static final int[] VALUE_FIELDS = {0, 1, 2, 3, 4, 5, 6, 7, 10, 12, 13, 14, 16};
    private static final int[] LINK_FIELDS = {8, 11, 15};
    /** In SLOT 0, 1 or 2, 3, 4: an OBJECT that has a FIELD, by its number. */
    private static final int[] OF = {0, 0, 0, 0, 0, 0, 0, 0, 0, 0, 1, 1, 2, 2, 3, 3, 4};

    public static void main(String[] args) {
        getFields();
        getMayBeBad();
        getFails();
        setFields();
        setBad();
        setFirstFailure();
        link();
        linkNothing();
        linkBad();
        linkFirstFailure();
        follow();
        followBad();
        followFails();
        row();
        rowOfNothing();
        rowBad();
        rowFirstFailure();
        put();
        putMayBeBad();
        putFirstFailure();
        length();
        lengthBad();
        lengthFails();
        count();
        countMayBeBad();
        countFails();
        check.end();
    }

    private static int[] allBut(int[] fields) {
        int[] near = Arrays.stream(new int[] {-1, 0, 1, 2, 3, 4, 5, 6, 7, 8, 9, 10, 11, 12, 13, 14, 15, 16, 17})
                .filter(field -> Arrays.binarySearch(fields, field) < 0).toArray();
        int[] all = Arrays.copyOf(near, near.length + 4);
        System.arraycopy(new int[] {99, 100, LEAST, MOST}, 0, all, near.length, 4);
        return all;
    }

    private static boolean has(int s, int field) {
        int owner = OF[field];
        return owner <= Check.TIP ? s >= owner && s <= Check.TIP : s == owner;
    }

    private static void getFields() {
        check.says(8, "A FIELD 0 .. 7, 10, 12 .. 14, 16. BAD");
        FieldLeaves x = Check.oneOfEach(0);
        for (int field : VALUE_FIELDS) {
            check.due("get " + field, x.get(OF[field], field), 0);
        }
        for (int field : allBut(VALUE_FIELDS)) {
            for (int s : new int[] {0, 2, 3, 4, 9}) {
                twins.same("get " + field + " of " + s, Check.BAD, y -> y.get(s, field));
            }
        }
        twins.slots("get", (y, s) -> y.get(s, 4));
    }

    private static void getMayBeBad() {
        check.says(8, "BAD (which it may be)");
        FieldLeaves x = Check.oneOfEach(0);
        x.make(4, Check.SIGNAL, -1);
        for (int field : new int[] {1, 2, 4, 5, 10, 12}) {
            x.set(2, field, -1);
            check.due("get " + field, x.get(2, field), -1);
            x.set(2, field, Check.NOTHING);
            check.due("get " + field + " that looks like a FAILURE", x.get(2, field), Check.NOTHING);
        }
        check.due("get 16", x.get(4, 16), -1);
    }

    private static void getFails() {
        check.says(8, "FAILURES 1, 4");
        for (int field : VALUE_FIELDS) {
            twins.same("get " + field + " of NOTHING", Check.NOTHING, x -> x.get(11, field));
            for (int s = 0; s <= Check.SIGNAL; s++) {
                int of = s;
                if (!has(s, field)) {
                    twins.same("get " + field + " of " + s, Check.CLASS, x -> x.get(of, field));
                }
            }
        }
    }

    private static void setFields() {
        check.says(9, "A VALUE becomes such a FIELD: 1");
        FieldLeaves x = Check.oneOfEach(0);
        for (int field : VALUE_FIELDS) {
            if (field != 13 && field != 16) {
                check.due("set " + field, x.set(OF[field], field, 1), 1);
                check.due("get " + field, x.get(OF[field], field), 1);
                check.due("set " + field + " to 0", x.set(OF[field], field, 0), 1);
                check.due("get " + field + " of 0", x.get(OF[field], field), 0);
            }
        }
    }

    private static void setBad() {
        check.says(9, "BAD.");
        for (int field : allBut(VALUE_FIELDS)) {
            for (int s : new int[] {0, 2, 3, 4, 9}) {
                twins.same("set " + field + " of " + s, Check.BAD, x -> x.set(s, field, 1));
            }
        }
        twins.slots("set", (x, s) -> x.set(s, 4, 99));
    }

    private static void setFirstFailure() {
        check.says(9, "FAILURES, the first: 4, 1, 7");
        for (int field : VALUE_FIELDS) {
            twins.same("set " + field + " of NOTHING", Check.NOTHING, x -> x.set(11, field, 99));
            for (int s = 0; s <= Check.SIGNAL; s++) {
                int of = s;
                if (!has(s, field)) {
                    twins.same("set " + field + " of " + s, Check.CLASS, x -> x.set(of, field, 99));
                }
            }
        }
        twins.same("4 ahead of 7, mark", Check.CLASS, x -> x.set(1, 13, 1));
        twins.same("4 ahead of 7, code", Check.CLASS, x -> x.set(2, 16, 1));
        twins.same("1 ahead of 7, mark", Check.NOTHING, x -> x.set(9, 13, 1));
        twins.same("1 ahead of 7, code", Check.NOTHING, x -> x.set(9, 16, 1));
        twins.same("mark", Check.FINAL, x -> x.set(2, 13, 1));
        twins.same("mark, what it is", Check.FINAL, x -> x.set(2, 13, 9));
        twins.same("mark, what no maker takes", Check.FINAL, x -> x.set(2, 13, -1));
        twins.same("code", Check.FINAL, x -> x.set(4, 16, 1));
        twins.same("code, what it is", Check.FINAL, x -> x.set(4, 16, 9));
    }

    /** SLOTS with an OBJECT that a link FIELD may hold. */
    private static int[] fitting(int field) {
        return field == 8 ? new int[] {0, 1, 2} : field == 11 ? new int[] {1, 2} : new int[] {0, 1, 2, 3};
    }

    private static void link() {
        check.says(10, "A FIELD 8, 11, 15 holds what SLOT t holds: 1");
        FieldLeaves x = Check.oneOfEach(0);
        for (int field : LINK_FIELDS) {
            for (int s = 0; s <= Check.SIGNAL; s++) {
                for (int t : fitting(field)) {
                    if (has(s, field)) {
                        check.due("link " + s + " " + field + " " + t, x.link(s, field, t), 1);
                        x.follow(s, field, 9);
                        check.due("linked " + s + " " + field + " " + t, x.same(9, t), 1);
                    }
                }
            }
        }
    }

    private static void linkNothing() {
        check.says(10, "holds what SLOT t holds");
        FieldLeaves x = new FieldLeaves();
        Twins.allKinds(x);
        for (int field : LINK_FIELDS) {
            int s = field == 15 ? 3 : 2;
            check.due("link " + field + " to NOTHING", x.link(s, field, 9), 1);
            x.make(10, Check.SIGNAL, 0);
            check.due("follow " + field, x.follow(s, field, 10), 1);
            check.due("what " + field + " holds", x.cls(10), Check.NONE);
        }
    }

    private static void linkBad() {
        check.says(10, "BAD.");
        for (int field : allBut(LINK_FIELDS)) {
            twins.same("link " + field, Check.BAD, x -> x.link(2, field, 1));
            twins.same("link " + field + " of a STRAY", Check.BAD, x -> x.link(3, field, 1));
            twins.same("link " + field + " of NOTHING", Check.BAD, x -> x.link(9, field, 1));
        }
        twins.slots("link of", (x, s) -> x.link(s, 8, 2));
        twins.slots("link to", (x, s) -> x.link(0, 8, s));
    }

    private static void linkFirstFailure() {
        check.says(10, "FAILURES, the first: 4 (of s, then of t: it may not be in such a FIELD), 1");
        for (int s : new int[] {3, 4}) {
            twins.same("8 of " + s, Check.CLASS, x -> x.link(s, 8, 0));
            twins.same("8 to " + s, Check.CLASS, x -> x.link(0, 8, s));
            twins.same("8 of " + s + " to NOTHING", Check.CLASS, x -> x.link(s, 8, 9));
            twins.same("8 of NOTHING to " + s + ": 4 ahead of 1", Check.CLASS, x -> x.link(9, 8, s));
        }
        for (int s : new int[] {0, 3, 4}) {
            twins.same("11 of " + s, Check.CLASS, x -> x.link(s, 11, 1));
            twins.same("11 to " + s, Check.CLASS, x -> x.link(1, 11, s));
            twins.same("11 of " + s + " to NOTHING", Check.CLASS, x -> x.link(s, 11, 9));
            twins.same("11 of NOTHING to " + s + ": 4 ahead of 1", Check.CLASS, x -> x.link(9, 11, s));
        }
        for (int s : new int[] {0, 1, 2, 4}) {
            twins.same("15 of " + s, Check.CLASS, x -> x.link(s, 15, 3));
            twins.same("15 of " + s + " to NOTHING", Check.CLASS, x -> x.link(s, 15, 9));
        }
        twins.same("15 to a SIGNAL", Check.CLASS, x -> x.link(3, 15, 4));
        twins.same("15 of NOTHING to a SIGNAL: 4 ahead of 1", Check.CLASS, x -> x.link(9, 15, 4));
        twins.same("15 of a SIGNAL to a SIGNAL", Check.CLASS, x -> x.link(4, 15, 4));
        for (int field : LINK_FIELDS) {
            twins.same(field + " of NOTHING", Check.NOTHING, x -> x.link(9, field, 2));
            twins.same(field + " of NOTHING to NOTHING", Check.NOTHING, x -> x.link(9, field, 10));
        }
    }

    private static void follow() {
        check.says(11, "SLOT t holds what a FIELD 8, 11, 15 holds: 1");
        FieldLeaves x = new FieldLeaves();
        Twins.allKinds(x);
        check.due("follow 8", x.follow(1, 8, 11), 1);
        check.due("what 8 holds", x.same(11, 0), 1);
        check.due("follow 11", x.follow(1, 11, 11), 1);
        check.due("what 11 holds", x.same(11, 2), 1);
        check.due("follow 15", x.follow(3, 15, 11), 1);
        check.due("what 15 holds", x.same(11, 2), 1);
        x.link(0, 8, 9);
        check.due("follow NOTHING", x.follow(0, 8, 11), 1);
        check.due("what there is not", x.cls(11), Check.NONE);
        check.due("follow into its own SLOT", x.follow(3, 15, 3), 1);
        check.due("its own SLOT", x.same(3, 2), 1);
        twins.same("follow into a SLOT that holds it", 1, y -> y.follow(2, 8, 5));
    }

    private static void followBad() {
        check.says(11, "BAD.");
        for (int field : allBut(LINK_FIELDS)) {
            twins.same("follow " + field, Check.BAD, x -> x.follow(2, field, 1));
            twins.same("follow " + field + " of a STRAY", Check.BAD, x -> x.follow(3, field, 1));
        }
        twins.slots("follow of", (x, s) -> x.follow(s, 8, 2));
        twins.slots("follow to", (x, s) -> x.follow(0, 8, s));
    }

    private static void followFails() {
        check.says(11, "FAILURES 1, 4");
        for (int field : LINK_FIELDS) {
            twins.same("follow " + field + " of NOTHING", Check.NOTHING, x -> x.follow(9, field, 0));
            for (int s = 0; s <= Check.SIGNAL; s++) {
                int of = s;
                if (!has(s, field)) {
                    twins.same("follow " + field + " of " + s, Check.CLASS, x -> x.follow(of, field, 0));
                }
            }
        }
    }

    private static void row() {
        check.says(12, "FIELD 9 holds a new row of n ints, 0s");
        for (int n : new int[] {0, 1, 19, 20}) {
            FieldLeaves x = new FieldLeaves();
            x.make(0, Check.TIP, 0);
            x.row(0, 20);
            for (int i = 0; i < 20; i++) {
                x.put(0, i, -1);
            }
            check.due("row of " + n, x.row(0, n), n);
            check.due("length of " + n, x.length(0), n);
            for (int i = 0; i < n; i++) {
                check.due("int " + i + " of " + n, x.put(0, i, 1), 0);
            }
        }
    }

    private static void rowOfNothing() {
        check.says(12, "(n = NONE: NOTHING): n");
        FieldLeaves x = Check.oneOfEach(0);
        x.row(0, 3);
        check.due("row of NONE", x.row(0, Check.NONE), Check.NONE);
        check.due("length", x.length(0), Check.NOTHING);
        check.due("row of NONE again", x.row(0, Check.NONE), Check.NONE);
        check.due("leaves", x.leaves(0), 1);
        twins.same("one above NONE is a size below 0", Check.SIZE, y -> y.row(0, Check.NONE + 1));
        twins.same("one below NONE is a size below 0", Check.SIZE, y -> y.row(0, Check.NONE - 1));
    }

    private static void rowBad() {
        check.says(12, "BAD: n above 20");
        for (int n : new int[] {21, MOST}) {
            twins.same("row of " + n, Check.BAD, x -> x.row(0, n));
            twins.same("row of " + n + " of NOTHING", Check.BAD, x -> x.row(9, n));
            twins.same("row of " + n + " of a STRAY", Check.BAD, x -> x.row(3, n));
        }
        twins.slots("row", (x, s) -> x.row(s, 1));
    }

    private static void rowFirstFailure() {
        check.says(12, "FAILURES, the first: 4, 3, 1");
        for (int n : new int[] {-1, -2, -3, -5, LEAST}) {
            twins.same("row of " + n, Check.SIZE, x -> x.row(1, n));
            twins.same("row of " + n + " of a STRAY: 4 ahead of 3", Check.CLASS, x -> x.row(3, n));
            twins.same("row of " + n + " of a SIGNAL: 4 ahead of 3", Check.CLASS, x -> x.row(4, n));
            twins.same("row of " + n + " of NOTHING: 3 ahead of 1", Check.SIZE, x -> x.row(9, n));
        }
        for (int n : new int[] {Check.NONE, 0, 20}) {
            twins.same("row of " + n + " of a STRAY", Check.CLASS, x -> x.row(3, n));
            twins.same("row of " + n + " of a SIGNAL", Check.CLASS, x -> x.row(4, n));
            twins.same("row of " + n + " of NOTHING", Check.NOTHING, x -> x.row(9, n));
        }
    }

    private static void put() {
        check.says(13, "int i of FIELD 9 becomes v: what it was");
        FieldLeaves x = Check.oneOfEach(0);
        x.row(2, 20);
        for (int v : new int[] {MOST, LEAST, 0}) {
            for (int i : new int[] {0, 1, 18, 19}) {
                check.due("put " + i, x.put(2, i, v + i), v == MOST ? 0 : v == LEAST ? MOST + i : LEAST + i);
            }
        }
        check.due("an int between them", x.put(2, 2, 1), 0);
    }

    private static void putMayBeBad() {
        check.says(13, "BAD (which it may be)");
        FieldLeaves x = Check.oneOfEach(0);
        x.row(0, 1);
        x.put(0, 0, -1);
        check.due("put where -1 was", x.put(0, 0, Check.PLACE), -1);
        check.due("put where -12 was", x.put(0, 0, 5), Check.PLACE);
        check.due("it was put", x.put(0, 0, 0), 5);
        twins.slots("put", (y, s) -> y.put(s, 0, 5));
    }

    private static void putFirstFailure() {
        check.says(13, "FAILURES, the first: 4, 1 (also without a row), 2");
        Twins rows = new Twins(check, x -> {
            Twins.allKinds(x);
            x.row(1, Check.NONE);
            x.row(2, 0);
        });
        for (int i : new int[] {-1, 2, LEAST, MOST}) {
            rows.same("put at " + i + " of 2", Check.PLACE, x -> x.put(0, i, 1));
        }
        for (int i : new int[] {-1, 0, 1, LEAST, MOST}) {
            rows.same("put at " + i + " of a STRAY: 4 ahead of 2", Check.CLASS, x -> x.put(3, i, 1));
            rows.same("put at " + i + " of a SIGNAL: 4 ahead of 2", Check.CLASS, x -> x.put(4, i, 1));
            rows.same("put at " + i + " of NOTHING: 1 ahead of 2", Check.NOTHING, x -> x.put(9, i, 1));
            rows.same("put at " + i + " without a row: 1 ahead of 2", Check.NOTHING, x -> x.put(1, i, 1));
            rows.same("put at " + i + " of none", Check.PLACE, x -> x.put(2, i, 1));
        }
        FieldLeaves x = Check.oneOfEach(0);
        x.row(0, 20);
        check.due("put at 19 of 20", x.put(0, 19, 1), 0);
        check.due("put at 20 of 20", x.put(0, 20, 1), Check.PLACE);
    }

    private static void length() {
        check.says(14, "How many ints FIELD 9 has");
        FieldLeaves x = Check.oneOfEach(0);
        for (int n : new int[] {0, 1, 20}) {
            for (int s = Check.BASE; s <= Check.TIP; s++) {
                x.row(s, n);
                check.due("length of " + s, x.length(s), n);
            }
        }
    }

    private static void lengthBad() {
        check.says(14, "BAD.");
        twins.slots("length", (x, s) -> x.length(s));
    }

    private static void lengthFails() {
        check.says(14, "FAILURES 4, 1 (also without a row)");
        twins.same("of a STRAY", Check.CLASS, x -> x.length(3));
        twins.same("of a SIGNAL", Check.CLASS, x -> x.length(4));
        twins.same("of NOTHING", Check.NOTHING, x -> x.length(11));
        FieldLeaves x = Check.oneOfEach(0);
        for (int s = Check.BASE; s <= Check.TIP; s++) {
            check.due("without a row, " + s, x.length(s), Check.NOTHING);
        }
    }

    private static void count() {
        check.says(15, "FIELD count by a CLASS (0, 1, 2) as whose it is looked at: 4, 10, 12");
        FieldLeaves x = Check.oneOfEach(0);
        for (int s = Check.BASE; s <= Check.TIP; s++) {
            x.set(s, 4, LEAST);
            x.set(s, 10, MOST);
            x.set(s, 12, Long.MIN_VALUE);
        }
        long[] due = {LEAST, MOST, Long.MIN_VALUE};
        for (int s = Check.BASE; s <= Check.TIP; s++) {
            for (int cls = Check.BASE; cls <= s; cls++) {
                check.due("count of " + s + " as " + cls, x.count(s, cls), due[cls]);
            }
        }
    }

    private static void countMayBeBad() {
        check.says(15, "BAD (which it may be)");
        FieldLeaves x = Check.oneOfEach(0);
        x.set(2, 4, -1);
        x.set(2, 10, -1);
        x.set(2, 12, -1);
        for (int cls = Check.BASE; cls <= Check.TIP; cls++) {
            check.due("count of -1 as " + cls, x.count(2, cls), -1);
        }
        for (int cls : new int[] {-1, 3, 4, 5, LEAST, MOST}) {
            twins.same("count as " + cls, Check.BAD, y -> y.count(2, cls));
            twins.same("count of NOTHING as " + cls, Check.BAD, y -> y.count(9, cls));
        }
        twins.slots("count", (y, s) -> y.count(s, 0));
    }

    private static void countFails() {
        check.says(15, "FAILURES 4, 1");
        for (int cls = Check.BASE; cls <= Check.TIP; cls++) {
            int as = cls;
            twins.same("count of a STRAY as " + cls, Check.CLASS, x -> x.count(3, as));
            twins.same("count of a SIGNAL as " + cls, Check.CLASS, x -> x.count(4, as));
            twins.same("count of NOTHING as " + cls, Check.NOTHING, x -> x.count(9, as));
        }
        twins.same("count of a BASE as 1", Check.CLASS, x -> x.count(0, 1));
        twins.same("count of a BASE as 2", Check.CLASS, x -> x.count(0, 2));
        twins.same("count of a MIDDLE as 2", Check.CLASS, x -> x.count(1, 2));
    }
}
