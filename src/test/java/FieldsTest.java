/** Promises 8 to 15: get, set, link, follow, row, put, length, count. */
public final class FieldsTest {
    private static final Check check = new Check();
    private static final int[] VALUE_FIELDS = {0, 1, 2, 3, 4, 5, 6, 7, 10, 12, 13, 14, 16};
    private static final int[] NO_VALUE_FIELDS = {-1, 8, 9, 11, 15, 17, 100, Integer.MIN_VALUE, Integer.MAX_VALUE};
    private static final int[] LINK_FIELDS = {8, 11, 15};
    private static final int[] NO_LINK_FIELDS = {-1, 0, 7, 9, 10, 12, 14, 16, 17, Integer.MIN_VALUE, Integer.MAX_VALUE};
    private static final int[] OWNER = {0, 0, 0, 0, 0, 0, 0, 0, 0, 0, 1, 1, 2, 2, 3, 3, 4};

    public static void main(String[] args) {
        values();
        hiddenFieldsAreApart();
        finals();
        getAndSetFail();
        link();
        linkFails();
        follow();
        row();
        put();
        length();
        count();
        check.end();
    }

    private static boolean has(int cls, int field) {
        int owner = OWNER[field];
        return owner <= Check.TIP ? cls >= owner && cls <= Check.TIP : cls == owner;
    }

    private static void value(FieldLeaves x, int s, int field, long given, long told) {
        check.due("set " + field + " to " + given, x.set(s, field, given), 1);
        check.due("get " + field + " after " + given, x.get(s, field), told);
    }

    private static void values() {
        FieldLeaves x = Check.oneOfEach(0);
        value(x, 0, 0, 1, 1);
        value(x, 0, 0, 2, 0);
        value(x, 0, 0, -1, 1);
        value(x, 0, 1, 127, 127);
        value(x, 0, 1, 128, -128);
        value(x, 0, 1, 0x1ffL, -1);
        value(x, 0, 2, 32768, -32768);
        value(x, 0, 2, 0x17fffL, 32767);
        value(x, 0, 3, -1, 65535);
        value(x, 0, 3, 65536, 0);
        value(x, 0, 4, 1L << 31, Integer.MIN_VALUE);
        value(x, 0, 4, (1L << 32) + 5, 5);
        value(x, 0, 5, Long.MIN_VALUE, Long.MIN_VALUE);
        value(x, 0, 5, -1, -1);
        value(x, 0, 6, Float.floatToRawIntBits(1.5f), Float.floatToRawIntBits(1.5f));
        value(x, 0, 6, 0x80000000L, Integer.MIN_VALUE);
        value(x, 0, 6, 0x1_3f800000L, 0x3f800000L);
        value(x, 0, 6, 0x7f800000L, 0x7f800000L);
        value(x, 0, 6, 0xff800000L, (int) 0xff800000L);
        value(x, 0, 6, 0x7f800001L, 0x7fc00000L);
        value(x, 0, 6, 0xff800001L, 0x7fc00000L);
        value(x, 0, 6, -1, 0x7fc00000L);
        for (int[] at : new int[][] {{0, 7}, {3, 14}}) {
            value(x, at[0], at[1], Double.doubleToRawLongBits(-2.5), Double.doubleToRawLongBits(-2.5));
            value(x, at[0], at[1], Long.MIN_VALUE, Long.MIN_VALUE);
            value(x, at[0], at[1], 0x7ff0000000000000L, 0x7ff0000000000000L);
            value(x, at[0], at[1], 0xfff0000000000000L, 0xfff0000000000000L);
            value(x, at[0], at[1], 0x7ff0000000000001L, 0x7ff8000000000000L);
            value(x, at[0], at[1], 0xfff0000000000001L, 0x7ff8000000000000L);
            value(x, at[0], at[1], -1, 0x7ff8000000000000L);
        }
        value(x, 1, 10, (1L << 32) - 1, -1);
        value(x, 2, 12, Long.MAX_VALUE, Long.MAX_VALUE);
    }

    private static void hiddenFieldsAreApart() {
        FieldLeaves x = Check.oneOfEach(0);
        x.set(2, 4, 1);
        x.set(2, 10, 2);
        x.set(2, 12, 3);
        check.due("count of BASE", x.get(2, 4), 1);
        check.due("count of MIDDLE", x.get(2, 10), 2);
        check.due("count of TIP", x.get(2, 12), 3);
        x.link(2, 8, 0);
        x.link(2, 11, 1);
        x.follow(2, 8, 6);
        x.follow(2, 11, 7);
        check.due("link of BASE", x.same(6, 0), 1);
        check.due("link of MIDDLE", x.same(7, 1), 1);
    }

    private static void finals() {
        FieldLeaves x = Check.oneOfEach(5);
        check.due("set mark", x.set(2, 13, 6), Check.FINAL);
        check.due("mark stays", x.get(2, 13), 5);
        check.due("set mark to what it is", x.set(2, 13, 5), Check.FINAL);
        check.due("set code", x.set(4, 16, 6), Check.FINAL);
        check.due("code stays", x.get(4, 16), 5);
        check.due("set mark of NOTHING", x.set(9, 13, 6), Check.NOTHING);
        check.due("set mark of a MIDDLE", x.set(1, 13, 6), Check.CLASS);
    }

    private static void getAndSetFail() {
        FieldLeaves x = Check.oneOfEach(0);
        for (int field : VALUE_FIELDS) {
            for (int s = 0; s < 5; s++) {
                boolean has = has(s, field);
                boolean isFinal = field == 13 || field == 16;
                check.due("get " + field + " of " + s, x.get(s, field), has ? 0 : Check.CLASS);
                check.due("set " + field + " of " + s, x.set(s, field, 0),
                        !has ? Check.CLASS : isFinal ? Check.FINAL : 1);
            }
            check.due("get " + field + " of NOTHING", x.get(5, field), Check.NOTHING);
            check.due("set " + field + " of NOTHING", x.set(5, field, 1), Check.NOTHING);
            for (int s : Check.NO_SLOTS) {
                check.due("get slot " + s, x.get(s, field), Check.BAD);
                check.due("set slot " + s, x.set(s, field, 1), Check.BAD);
            }
        }
        for (int field : NO_VALUE_FIELDS) {
            for (int s : new int[] {0, 2, 3, 4, 5}) {
                check.due("get field " + field, x.get(s, field), Check.BAD);
                check.due("set field " + field, x.set(s, field, 1), Check.BAD);
            }
        }
    }

    private static boolean fits(int cls, int field) {
        return field == 8 ? cls <= Check.TIP : field == 11 ? cls == Check.MIDDLE || cls == Check.TIP : cls <= Check.STRAY;
    }

    private static void link() {
        for (int field : LINK_FIELDS) {
            for (int s = 0; s < 5; s++) {
                for (int t = 0; t < 5; t++) {
                    FieldLeaves x = Check.oneOfEach(0);
                    boolean takes = has(s, field) && fits(t, field);
                    check.due("link " + s + " " + field + " " + t, x.link(s, field, t), takes ? 1 : Check.CLASS);
                    if (has(s, field)) {
                        x.follow(s, field, 6);
                        check.due("linked " + s + " " + field + " " + t, x.same(6, takes ? t : 9), 1);
                    }
                }
            }
        }
        FieldLeaves x = Check.oneOfEach(0);
        x.link(0, 8, 2);
        check.due("link NOTHING", x.link(0, 8, 9), 1);
        check.due("linked NOTHING", x.call(0, 2), 0);
    }

    private static void linkFails() {
        FieldLeaves x = Check.oneOfEach(0);
        check.due("link in NOTHING", x.link(9, 8, 0), Check.NOTHING);
        check.due("link NOTHING in NOTHING", x.link(9, 15, 10), Check.NOTHING);
        check.due("link a STRAY in NOTHING", x.link(9, 8, 3), Check.CLASS);
        check.due("link a BASE in 11 of NOTHING", x.link(9, 11, 0), Check.CLASS);
        check.due("link a SIGNAL in 15 of NOTHING", x.link(9, 15, 4), Check.CLASS);
        check.due("link NOTHING in 11 of a BASE", x.link(0, 11, 9), Check.CLASS);
        for (int field : NO_LINK_FIELDS) {
            check.due("link field " + field, x.link(2, field, 2), Check.BAD);
            check.due("link field " + field + " of NOTHING", x.link(9, field, 4), Check.BAD);
        }
        for (int s : Check.NO_SLOTS) {
            check.due("link slot " + s, x.link(s, 8, 0), Check.BAD);
            check.due("link of slot " + s, x.link(0, 8, s), Check.BAD);
            check.due("link is BAD ahead of failing", x.link(4, 8, s), Check.BAD);
        }
        check.due("nothing was linked", x.call(2, 2), 0);
    }

    private static void follow() {
        FieldLeaves x = Check.oneOfEach(0);
        x.link(3, 15, 3);
        check.due("follow", x.follow(3, 15, 7), 1);
        check.due("followed", x.same(3, 7), 1);
        check.due("follow to NOTHING", x.follow(2, 11, 7), 1);
        check.due("followed to NOTHING", x.cls(7), Check.NONE);
        x.link(0, 8, 2);
        check.due("follow into itself", x.follow(0, 8, 0), 1);
        check.due("followed into itself", x.same(0, 2), 1);
        x = Check.oneOfEach(0);
        for (int field : LINK_FIELDS) {
            for (int s = 0; s < 5; s++) {
                check.due("follow " + s + " " + field, x.follow(s, field, 8), has(s, field) ? 1 : Check.CLASS);
            }
            check.due("follow NOTHING " + field, x.follow(9, field, 0), Check.NOTHING);
            check.due("follow changes nothing, if it fails", x.follow(4, field, 0), Check.CLASS);
            check.due("slot after follow failed", x.cls(0), Check.BASE);
            for (int s : Check.NO_SLOTS) {
                check.due("follow slot " + s, x.follow(s, field, 0), Check.BAD);
                check.due("follow to slot " + s, x.follow(2, field, s), Check.BAD);
            }
        }
        for (int field : NO_LINK_FIELDS) {
            check.due("follow field " + field, x.follow(2, field, 0), Check.BAD);
        }
    }

    private static void row() {
        FieldLeaves x = Check.oneOfEach(0);
        for (int s = 0; s <= Check.TIP; s++) {
            check.due("row of " + s, x.row(s, 20), 20);
            check.due("length of " + s, x.length(s), 20);
        }
        x.put(0, 3, 8);
        check.due("a new row", x.row(0, 20), 20);
        check.due("is of 0s", x.put(0, 3, 8), 0);
        check.due("row of none", x.row(0, 0), 0);
        check.due("length of none", x.length(0), 0);
        x.row(0, 2);
        for (int n : new int[] {-1, -3, -5, Integer.MIN_VALUE}) {
            check.due("row " + n, x.row(0, n), Check.SIZE);
            check.due("row " + n + " of NOTHING", x.row(9, n), Check.SIZE);
            check.due("row " + n + " of a STRAY", x.row(3, n), Check.CLASS);
            check.due("row " + n + " of a SIGNAL", x.row(4, n), Check.CLASS);
            check.due("row stays", x.length(0), 2);
        }
        for (int n : new int[] {21, Integer.MAX_VALUE}) {
            check.due("row " + n, x.row(0, n), Check.BAD);
            check.due("row " + n + " of a STRAY", x.row(3, n), Check.BAD);
            check.due("row " + n + " of NOTHING", x.row(9, n), Check.BAD);
        }
        check.due("row NONE", x.row(0, Check.NONE), Check.NONE);
        check.due("no row", x.length(0), Check.NOTHING);
        check.due("row NONE of NOTHING", x.row(9, Check.NONE), Check.NOTHING);
        check.due("row NONE of a STRAY", x.row(3, Check.NONE), Check.CLASS);
        check.due("row of NOTHING", x.row(9, 1), Check.NOTHING);
        for (int s : Check.NO_SLOTS) {
            check.due("row slot " + s, x.row(s, 1), Check.BAD);
            check.due("row slot " + s + " below 0", x.row(s, -1), Check.BAD);
        }
    }

    private static void put() {
        FieldLeaves x = Check.oneOfEach(0);
        check.due("put without a row", x.put(0, 0, 1), Check.NOTHING);
        check.due("put without a row or place", x.put(0, -1, 1), Check.NOTHING);
        x.row(0, 3);
        check.due("put", x.put(0, 2, Integer.MIN_VALUE), 0);
        check.due("put again", x.put(0, 2, -1), Integer.MIN_VALUE);
        check.due("put once more", x.put(0, 2, 5), -1);
        check.due("put beside", x.put(0, 1, 5), 0);
        for (int i : new int[] {-1, 3, Integer.MIN_VALUE, Integer.MAX_VALUE}) {
            check.due("put at " + i, x.put(0, i, 1), Check.PLACE);
            check.due("put at " + i + " of a STRAY", x.put(3, i, 1), Check.CLASS);
            check.due("put at " + i + " of NOTHING", x.put(9, i, 1), Check.NOTHING);
        }
        x.row(0, 0);
        check.due("put in a row of none", x.put(0, 0, 1), Check.PLACE);
        check.due("put in a SIGNAL", x.put(4, 0, 1), Check.CLASS);
        for (int s : Check.NO_SLOTS) {
            check.due("put slot " + s, x.put(s, 0, 1), Check.BAD);
        }
    }

    private static void length() {
        FieldLeaves x = Check.oneOfEach(0);
        x.row(1, 7);
        check.due("length", x.length(1), 7);
        check.due("length without a row", x.length(0), Check.NOTHING);
        check.due("length of NOTHING", x.length(9), Check.NOTHING);
        check.due("length of a STRAY", x.length(3), Check.CLASS);
        check.due("length of a SIGNAL", x.length(4), Check.CLASS);
        for (int s : Check.NO_SLOTS) {
            check.due("length slot " + s, x.length(s), Check.BAD);
        }
    }

    private static void count() {
        FieldLeaves x = Check.oneOfEach(0);
        for (int s = 0; s <= Check.TIP; s++) {
            x.set(s, 4, 11);
            x.set(s, 10, 12);
            x.set(s, 12, Long.MIN_VALUE);
        }
        long[] told = {11, 12, Long.MIN_VALUE};
        for (int s = 0; s < 5; s++) {
            for (int cls = 0; cls < 3; cls++) {
                check.due("count of " + s + " as " + cls, x.count(s, cls),
                        s <= Check.TIP && s >= cls ? told[cls] : Check.CLASS);
            }
        }
        check.due("count of NOTHING", x.count(9, 2), Check.NOTHING);
        for (int cls : new int[] {-1, 3, 5, Integer.MIN_VALUE, Integer.MAX_VALUE}) {
            check.due("count as " + cls, x.count(2, cls), Check.BAD);
            check.due("count of NOTHING as " + cls, x.count(9, cls), Check.BAD);
        }
        for (int s : Check.NO_SLOTS) {
            check.due("count slot " + s, x.count(s, 0), Check.BAD);
        }
    }
}
