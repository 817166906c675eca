/** The boundary cases that the document names ahead of its promises, a test for each sentence. */
public final class TermsEdgesTest {
    private static final Check check = new Check();
    private static final Twins twins = new Twins(check);
    private static final int[] VALUE_FIELDS = {0, 1, 2, 3, 4, 5, 6, 7, 10, 12, 13, 14, 16};
    private static final int[] LINK_FIELDS = {8, 11, 15};
    private static final int[] OWNER = {0, 0, 0, 0, 0, 0, 0, 0, 0, 0, 1, 1, 2, 2, 3, 3, 4};
    private static final int NO_FLOAT = 0x7fc00000;
    private static final long NO_DOUBLE = 0x7ff8000000000000L;

    public static void main(String[] args) {
        lastCall();
        slots();
        severalTheSame();
        linked();
        belowHasThemToo();
        hidden();
        atFirst();
        makers();
        flag();
        wholeNumbers();
        ratio();
        exactAndWeight();
        noNumbers();
        lowestBits();
        failures();
        badIsAhead();
        changesNothing();
        check.end();
    }

    private static void lastCall() {
        check.says(Check.TERMS, "An object is used for at most 512 calls after it has been made");
        FieldLeaves x = new FieldLeaves();
        Check.chain(x, 0, 24);
        x.leaves(0);
        // 71 calls make the chain, and one tells it.
        for (int call = 73; call < 512; call++) {
            check.due("back, call " + call, x.back(call % 12), 24);
        }
        check.due("equal, call 512", x.equal(0, 11), 1);
    }

    private static void slots() {
        check.says(Check.TERMS, "11 hold NOTHING (at first), or an OBJECT");
        FieldLeaves x = new FieldLeaves();
        for (int s = 0; s < 12; s++) {
            check.due("cls " + s, x.cls(s), Check.NONE);
        }
        for (int s = 0; s < 12; s++) {
            check.due("make in slot " + s, x.make(s, Check.SIGNAL, s), 1);
        }
        for (int s = 0; s < 12; s++) {
            check.due("code in slot " + s, x.get(s, 16), s);
        }
        for (int s : Check.NO_SLOTS) {
            check.due("make in slot " + s, x.make(s, Check.SIGNAL, 0), Check.BAD);
            check.due("cls of slot " + s, x.cls(s), Check.BAD);
        }
    }

    private static void severalTheSame() {
        check.says(Check.TERMS, "(several perhaps the same one)");
        FieldLeaves x = new FieldLeaves();
        x.make(0, Check.BASE, 0);
        for (int s = 1; s < 12; s++) {
            x.share(0, s);
        }
        x.set(11, 4, 5);
        for (int s = 0; s < 12; s++) {
            check.due("count in slot " + s, x.get(s, 4), 5);
        }
        x.clear(0);
        check.due("count in slot 1 after 0 was cleared", x.get(1, 4), 5);
    }

    private static void linked() {
        check.says(Check.TERMS, "BASE, what is below it, and STRAY are LINKED");
        FieldLeaves x = Check.oneOfEach(0);
        for (int cls = Check.BASE; cls <= Check.SIGNAL; cls++) {
            boolean linked = cls != Check.SIGNAL;
            check.due("is " + cls + " LINKED", x.is(cls, Check.LINKED), linked ? 1 : 0);
            check.due("15 takes " + cls, x.link(3, 15, cls), linked ? 1 : Check.CLASS);
            check.due("depth of " + cls, x.call(cls, 2), cls == Check.STRAY ? 50 : linked ? 0 : Check.CLASS);
            x.link(3, 15, 3);
        }
    }

    private static boolean has(int cls, int field) {
        int owner = OWNER[field];
        return owner <= Check.TIP ? cls >= owner && cls <= Check.TIP : cls == owner;
    }

    private static void belowHasThemToo() {
        check.says(Check.TERMS, "the CLASS that has them (what is below it has them, too)");
        FieldLeaves x = Check.oneOfEach(0);
        for (int cls = Check.BASE; cls <= Check.SIGNAL; cls++) {
            for (int field : VALUE_FIELDS) {
                check.due("get " + field + " of " + cls, x.get(cls, field), has(cls, field) ? 0 : Check.CLASS);
            }
            for (int field : LINK_FIELDS) {
                check.due("follow " + field + " of " + cls, x.follow(cls, field, 9), has(cls, field) ? 1 : Check.CLASS);
            }
            check.due("row of " + cls, x.row(cls, 1), has(cls, 9) ? 1 : Check.CLASS);
        }
    }

    private static void hidden() {
        check.says(Check.TERMS, "10 count (int; it hides 4), 11 link (a MIDDLE; it hides 8)");
        FieldLeaves x = Check.oneOfEach(0);
        x.make(5, Check.MIDDLE, 0);
        x.set(1, 4, 1);
        check.due("10 after 4", x.get(1, 10), 0);
        x.set(1, 10, 2);
        check.due("4 after 10", x.get(1, 4), 1);
        x.link(1, 8, 2);
        x.follow(1, 11, 6);
        check.due("11 after 8", x.cls(6), Check.NONE);
        x.link(1, 11, 5);
        x.follow(1, 8, 6);
        check.due("8 after 11", x.same(6, 2), 1);
        check.says(Check.TERMS, "12 count (long; it hides 10)");
        x.set(2, 10, 3);
        check.due("12 after 10", x.get(2, 12), 0);
        x.set(2, 12, 1L << 40);
        check.due("10 after 12", x.get(2, 10), 3);
        check.due("4 after both", x.get(2, 4), 0);
    }

    private static void atFirst() {
        check.says(Check.TERMS, "All are 0, false, NOTHING at first, but the FINAL ones, which the maker is told");
        FieldLeaves x = Check.oneOfEach(9);
        for (int cls = Check.BASE; cls <= Check.SIGNAL; cls++) {
            for (int field : VALUE_FIELDS) {
                if (has(cls, field)) {
                    check.due(field + " of " + cls, x.get(cls, field), field == 13 || field == 16 ? 9 : 0);
                }
            }
            for (int field : LINK_FIELDS) {
                if (has(cls, field)) {
                    x.make(9, Check.BASE, 0);
                    x.follow(cls, field, 9);
                    check.due(field + " of " + cls, x.cls(9), Check.NONE);
                }
            }
            if (has(cls, 9)) {
                check.due("row of " + cls, x.length(cls), Check.NOTHING);
            }
        }
    }

    private static void makers() {
        check.says(Check.TERMS, "that of TIP takes 0 to 1000, of SIGNAL any");
        FieldLeaves x = new FieldLeaves();
        for (int n : new int[] {0, 1, 999, 1000}) {
            check.due("TIP " + n, x.make(0, Check.TIP, n), 1);
            check.due("mark " + n, x.get(0, 13), n);
        }
        for (int n : new int[] {-1, 1001, Integer.MIN_VALUE, Integer.MAX_VALUE}) {
            twins.same("TIP " + n, Check.MAKER, y -> y.make(0, Check.TIP, n));
        }
        for (int n : new int[] {0, -1, 1001, Integer.MIN_VALUE, Integer.MAX_VALUE}) {
            check.due("SIGNAL " + n, x.make(0, Check.SIGNAL, n), 1);
            check.due("code " + n, x.get(0, 16), n);
        }
    }

    /** A FIELD tells a VALUE after it was given another. */
    private static void tells(int cls, int field, long given, long told) {
        FieldLeaves x = new FieldLeaves();
        x.make(0, cls, 0);
        check.due("set " + field + " to " + given, x.set(0, field, given), 1);
        check.due(field + " after " + given, x.get(0, field), told);
    }

    private static void flag() {
        check.says(Check.TERMS, "a flag 1, 0");
        tells(Check.BASE, 0, 0, 0);
        tells(Check.BASE, 0, 1, 1);
        check.says(Check.TERMS, "(a flag the lowest one)");
        tells(Check.BASE, 0, 2, 0);
        tells(Check.BASE, 0, 3, 1);
        tells(Check.BASE, 0, -1, 1);
        tells(Check.BASE, 0, -2, 0);
        tells(Check.BASE, 0, Long.MIN_VALUE, 0);
        tells(Check.BASE, 0, Long.MAX_VALUE, 1);
    }

    /** The last VALUES that a whole FIELD holds, and the first that run over, on both sides. */
    private static void whole(int cls, int field, long least, long most) {
        tells(cls, field, least, least);
        tells(cls, field, most, most);
        tells(cls, field, most + 1, least);
        tells(cls, field, least - 1, most);
    }

    private static void wholeNumbers() {
        check.says(Check.TERMS, "whole numbers as they are");
        whole(Check.BASE, 1, Byte.MIN_VALUE, Byte.MAX_VALUE);
        whole(Check.BASE, 2, Short.MIN_VALUE, Short.MAX_VALUE);
        whole(Check.BASE, 3, 0, 65535);
        whole(Check.BASE, 4, Integer.MIN_VALUE, Integer.MAX_VALUE);
        whole(Check.BASE, 5, Long.MIN_VALUE, Long.MAX_VALUE);
        whole(Check.MIDDLE, 10, Integer.MIN_VALUE, Integer.MAX_VALUE);
        whole(Check.TIP, 12, Long.MIN_VALUE, Long.MAX_VALUE);
    }

    private static void ratio() {
        check.says(Check.TERMS, "ratio the 32 bits as a number with sign");
        tells(Check.BASE, 6, 0x3f800000L, 0x3f800000L);
        tells(Check.BASE, 6, 0xbf800000L, 0xbf800000L - (1L << 32));
        tells(Check.BASE, 6, 0x80000000L, Integer.MIN_VALUE);
        tells(Check.BASE, 6, 1, 1);
        tells(Check.BASE, 6, 0x80000001L, Integer.MIN_VALUE + 1);
        tells(Check.BASE, 6, 0x7f7fffffL, 0x7f7fffffL);
        tells(Check.BASE, 6, 0x7f800000L, 0x7f800000L);
        tells(Check.BASE, 6, 0xff800000L, 0xff800000L - (1L << 32));
    }

    private static void exactAndWeight() {
        check.says(Check.TERMS, "exact and weight the 64 bits");
        long[] numbers = {
            0, 1, 0x3ff0000000000000L, 0x7fefffffffffffffL, 0x7ff0000000000000L,
            Long.MIN_VALUE, Long.MIN_VALUE + 1, 0xbff0000000000000L, 0xfff0000000000000L
        };
        for (long number : numbers) {
            tells(Check.TIP, 7, number, number);
            tells(Check.STRAY, 14, number, number);
        }
    }

    private static void noNumbers() {
        check.says(Check.TERMS, "(all that are no number as 7fc00000, 7ff8000000000000, hexadecimal)");
        for (long bits : new long[] {0x7f800001L, 0x7fbfffffL, 0x7fc00000L, 0x7fffffffL,
            0xff800001L, 0xffbfffffL, 0xffc00000L, 0xffffffffL}) {
            tells(Check.BASE, 6, bits, NO_FLOAT);
        }
        for (long bits : new long[] {0x7ff0000000000001L, 0x7ff7ffffffffffffL, NO_DOUBLE, Long.MAX_VALUE,
            0xfff0000000000001L, 0xfff7ffffffffffffL, 0xfff8000000000000L, -1}) {
            tells(Check.BASE, 7, bits, NO_DOUBLE);
            tells(Check.STRAY, 14, bits, NO_DOUBLE);
        }
    }

    private static void lowestBits() {
        check.says(Check.TERMS, "they are given by their lowest bits likewise");
        tells(Check.BASE, 1, 0x7fffffffffffff80L, -128);
        tells(Check.BASE, 1, 0x100, 0);
        tells(Check.BASE, 2, 0x7fffffffffff8000L, -32768);
        tells(Check.BASE, 2, 0x10000, 0);
        tells(Check.BASE, 3, 0x7fffffffffff8000L, 32768);
        tells(Check.BASE, 3, Long.MIN_VALUE, 0);
        tells(Check.BASE, 4, 1L << 32, 0);
        tells(Check.BASE, 4, 0x7fffffff80000000L, Integer.MIN_VALUE);
        tells(Check.MIDDLE, 10, (1L << 32) + 7, 7);
        tells(Check.BASE, 6, 1L << 32, 0);
        tells(Check.BASE, 6, 0x7fffffff_3f800000L, 0x3f800000L);
        tells(Check.BASE, 6, 0x1_7f800001L, NO_FLOAT);
    }

    private static void failures() {
        FieldLeaves x = Check.oneOfEach(0);
        x.row(0, 1);
        check.says(Check.TERMS, "FAILURES: -10 less 1 NOTHING is where an OBJECT is wanted");
        check.due("get of NOTHING", x.get(9, 4), -10 - 1);
        check.says(Check.TERMS, "2 there is no such place in a row");
        check.due("put at 1 of 1", x.put(0, 1, 0), -10 - 2);
        check.says(Check.TERMS, "3 a size is below 0");
        check.due("row of -1", x.row(0, -1), -10 - 3);
        check.says(Check.TERMS, "4 an OBJECT is of another CLASS than is wanted");
        check.due("get 4 of a STRAY", x.get(3, 4), -10 - 4);
        check.says(Check.TERMS, "7 FINAL");
        check.due("set 13", x.set(2, 13, 0), -10 - 7);
        check.says(Check.TERMS, "8 a maker does not take what it is told");
        check.due("make a TIP of -1", x.make(0, Check.TIP, -1), -10 - 8);
    }

    /** Each of these calls would FAIL, were it not BAD. */
    private static void badIsAhead() {
        check.says(Check.TERMS, "BAD: no such SLOT, a number out of its bounds; ahead of all FAILURES");
        twins.same("make, slot; 8", Check.BAD, x -> x.make(12, Check.TIP, -1));
        twins.same("get, field; 1", Check.BAD, x -> x.get(9, 17));
        twins.same("get, field; 4", Check.BAD, x -> x.get(4, 9));
        twins.same("set, field; 1", Check.BAD, x -> x.set(9, -1, 0));
        twins.same("set, field; 4", Check.BAD, x -> x.set(4, 8, 0));
        twins.same("set, slot; 7", Check.BAD, x -> x.set(-1, 13, 0));
        twins.same("link, slot t; 4 of s", Check.BAD, x -> x.link(3, 8, 12));
        twins.same("link, slot t; 1", Check.BAD, x -> x.link(9, 8, -1));
        twins.same("link, slot s; 4 of t", Check.BAD, x -> x.link(12, 8, 3));
        twins.same("link, field; 4 of t", Check.BAD, x -> x.link(0, 9, 4));
        twins.same("follow, slot t; 1", Check.BAD, x -> x.follow(9, 8, 12));
        twins.same("follow, slot t; 4", Check.BAD, x -> x.follow(3, 8, -1));
        twins.same("follow, field; 1", Check.BAD, x -> x.follow(9, 9, 0));
        twins.same("row, size; 4", Check.BAD, x -> x.row(3, 21));
        twins.same("row, size; 1", Check.BAD, x -> x.row(9, 21));
        twins.same("row, slot; 3", Check.BAD, x -> x.row(12, -1));
        twins.same("put, slot; 2", Check.BAD, x -> x.put(12, -1, 0));
        twins.same("count, class; 4", Check.BAD, x -> x.count(3, 3));
        twins.same("count, class; 1", Check.BAD, x -> x.count(9, -1));
        twins.same("call, what; 4", Check.BAD, x -> x.call(4, 5));
        twins.same("call, what; 1", Check.BAD, x -> x.call(9, -1));
        twins.same("passes, n; 4", Check.BAD, x -> x.passes(0, 13));
        twins.same("passes, n; 1", Check.BAD, x -> x.passes(9, 0));
        twins.same("changed, k; 1", Check.BAD, x -> x.changed(9, 0, -1));
        twins.same("changed, k; 4", Check.BAD, x -> x.changed(0, 1, -1));
        twins.same("changed, slot t; 1", Check.BAD, x -> x.changed(9, 12, 0));
        Twins makerFails = new Twins(check, x -> {
            Twins.allKinds(x);
            x.alter(21, -1);
        });
        makerFails.same("back, slot; 8", Check.BAD, x -> x.back(12));
    }

    private static boolean all(long due, long... answers) {
        for (long answer : answers) {
            if (answer != due) {
                return false;
            }
        }
        return true;
    }

    /** All kinds of refused calls, one behind the other. */
    private static long refusedCalls(FieldLeaves x) {
        boolean bad = all(Check.BAD, x.make(1, 5, 0), x.clear(12), x.share(0, 12), x.share(12, 0), x.set(0, 8, 1),
                x.link(0, 9, 1), x.follow(0, 8, 12), x.row(0, 21), x.passes(4, 13), x.passes(12, 1), x.leaves(12),
                x.alter(0, 1), x.alter(13, 1), x.alter(51, 1), x.back(12), x.equal(0, 12));
        boolean nothing = all(Check.NOTHING, x.set(9, 4, 1), x.link(9, 8, 0), x.follow(9, 8, 0), x.row(9, 1),
                x.put(9, 0, 1), x.leaves(9), x.changed(9, 0, 0));
        boolean place = all(Check.PLACE, x.put(0, 2, 1), x.put(0, -1, 1));
        boolean size = all(Check.SIZE, x.row(0, -1), x.row(9, -1));
        boolean other = all(Check.CLASS, x.set(3, 4, 1), x.link(0, 8, 3), x.link(0, 11, 1), x.follow(3, 8, 0),
                x.row(3, 1), x.put(3, 0, 1), x.raise(0), x.call(4, 0), x.changed(0, 1, 0));
        boolean fixed = all(Check.FINAL, x.set(2, 13, 1), x.set(4, 16, 1));
        boolean maker = all(Check.MAKER, x.make(0, Check.TIP, 1001), x.make(0, Check.TIP, -1));
        return bad && nothing && place && size && other && fixed && maker ? 1 : 0;
    }

    private static void changesNothing() {
        check.says(Check.TERMS, "What FAILS, is BAD or FULL changes nothing but where told");
        twins.same("refused calls in a row", 1, TermsEdgesTest::refusedCalls);
    }
}
