/** Promises 16 to 19: call, raise, passes, passed. */
public final class MethodsTest {
    private static final Check check = new Check();
    private static final int NAME = 0, SECRET = 1, DEPTH = 2, KIND = 3, NAME_OF_8 = 4;

    public static void main(String[] args) {
        name();
        secret();
        depth();
        kind();
        callFails();
        raise();
        passes();
        check.end();
    }

    private static void name() {
        FieldLeaves x = Check.oneOfEach(500);
        for (int s = 0; s <= Check.TIP; s++) {
            x.set(s, 4, 6);
            x.set(s, 10, 3);
            x.set(s, 12, 9999);
        }
        int[] due = {7, 73, 573};
        for (int s = 0; s <= Check.TIP; s++) {
            check.due("name of " + s, x.call(s, NAME), due[s]);
            for (int t = 0; t <= Check.TIP; t++) {
                x.link(s, 8, t);
                check.due("name of what 8 holds", x.call(s, NAME_OF_8), due[t]);
            }
        }
        x.set(0, 4, Integer.MAX_VALUE);
        check.due("name of a BASE runs over", x.call(0, NAME), Integer.MIN_VALUE);
        x.set(1, 4, Integer.MAX_VALUE - 1);
        x.set(1, 10, Integer.MIN_VALUE);
        check.due("name of a MIDDLE runs over", x.call(1, NAME), Integer.MAX_VALUE * 10 + Integer.MIN_VALUE);
        x.set(2, 4, -1);
        x.set(2, 10, Integer.MAX_VALUE);
        check.due("name of a TIP runs over", x.call(2, NAME), Integer.MAX_VALUE + 500);
    }

    private static void secret() {
        FieldLeaves x = Check.oneOfEach(0);
        for (int s = 0; s <= Check.TIP; s++) {
            x.set(s, 1, -128);
            x.set(s, 2, -32768);
            check.due("secret of " + s, x.call(s, SECRET), -32896);
        }
    }

    private static void depth() {
        FieldLeaves x = Check.oneOfEach(0);
        for (int s = 0; s <= Check.STRAY; s++) {
            check.due("depth of " + s, x.call(s, DEPTH), 0);
        }
        x.link(0, 8, 1);
        check.due("depth by 8 of a BASE", x.call(0, DEPTH), 1);
        x.link(1, 8, 1);
        x.link(2, 8, 2);
        check.due("8 of a MIDDLE does not count", x.call(1, DEPTH), 0);
        check.due("8 of a TIP does not count", x.call(2, DEPTH), 0);
        x.link(1, 11, 2);
        check.due("depth by 11 of a MIDDLE", x.call(0, DEPTH), 2);
        x.link(3, 15, 0);
        check.due("depth by 15 of a STRAY", x.call(3, DEPTH), 3);
        x.link(2, 11, 1);
        check.due("depth of a ring", x.call(3, DEPTH), 50);
        for (int size : new int[] {49, 50, 51, 52, 60}) {
            x = new FieldLeaves();
            Check.chain(x, 5, size);
            check.due("depth of a chain of " + size, x.call(5, DEPTH), Math.min(50, size - 1));
        }
    }

    private static void kind() {
        FieldLeaves x = Check.oneOfEach(0);
        int[] due = {1, 2, 3, 7};
        for (int s = 0; s <= Check.STRAY; s++) {
            check.due("kind of " + s, x.call(s, KIND), due[s]);
        }
        x.link(3, 15, 0);
        check.due("kind of a STRAY that leads on", x.call(3, KIND), 7);
        x.link(1, 11, 2);
        check.due("11 does not count", x.call(1, KIND), 2);
        x.link(0, 8, 1);
        x.link(1, 8, 2);
        check.due("kind of three", x.call(0, KIND), 321);
        x.link(2, 8, 0);
        check.due("kind of a ring", x.call(0, KIND), 21321321);
        for (int size : new int[] {7, 8, 9, 12}) {
            Check.chain(x, 5, size);
            check.due("kind of a chain of " + size, x.call(5, KIND), size == 7 ? 1111111 : 11111111);
        }
    }

    private static void callFails() {
        FieldLeaves x = Check.oneOfEach(0);
        check.due("name of what 8 does not hold", x.call(0, NAME_OF_8), Check.NOTHING);
        for (int what = 0; what <= 4; what++) {
            check.due("call " + what + " of NOTHING", x.call(9, what), Check.NOTHING);
            check.due("call " + what + " of a SIGNAL", x.call(4, what), Check.CLASS);
            if (what != DEPTH && what != KIND) {
                check.due("call " + what + " of a STRAY", x.call(3, what), Check.CLASS);
            }
            for (int s : Check.NO_SLOTS) {
                check.due("call slot " + s, x.call(s, what), Check.BAD);
            }
        }
        for (int what : new int[] {-1, 5, Integer.MIN_VALUE, Integer.MAX_VALUE}) {
            check.due("call " + what, x.call(0, what), Check.BAD);
            check.due("call " + what + " of NOTHING", x.call(9, what), Check.BAD);
        }
    }

    private static void raise() {
        FieldLeaves x = Check.oneOfEach(77);
        check.due("raise", x.raise(4), 77);
        x.make(5, Check.SIGNAL, -1);
        check.due("raise -1", x.raise(5), -1);
        for (int s = 0; s <= Check.STRAY; s++) {
            check.due("raise " + s, x.raise(s), Check.CLASS);
        }
        check.due("raise NOTHING", x.raise(9), Check.NOTHING);
        for (int s : Check.NO_SLOTS) {
            check.due("raise slot " + s, x.raise(s), Check.BAD);
        }
    }

    private static void passes() {
        FieldLeaves x = Check.oneOfEach(77);
        for (int n = 1; n <= 12; n++) {
            check.due("passes " + n, x.passes(4, n), 77);
            check.due("passed " + n, x.passed(), n);
        }
        check.due("passes 3", x.passes(4, 3), 77);
        check.due("passed is of the latest", x.passed(), 3);
        check.due("passed again", x.passed(), 3);
        for (int n : new int[] {0, -1, 13, Integer.MIN_VALUE, Integer.MAX_VALUE}) {
            check.due("passes " + n, x.passes(4, n), Check.BAD);
            check.due("passes " + n + " of NOTHING", x.passes(9, n), Check.BAD);
        }
        for (int s : Check.NO_SLOTS) {
            check.due("passes slot " + s, x.passes(s, 5), Check.BAD);
        }
        check.due("BAD passes nothing", x.passed(), 3);
        for (int s = 0; s <= Check.STRAY; s++) {
            check.due("passes of " + s, x.passes(s, 4 + s), Check.CLASS);
            check.due("a FAILURE passes, too", x.passed(), 4 + s);
        }
        check.due("passes of NOTHING", x.passes(9, 12), Check.NOTHING);
        check.due("passed of NOTHING", x.passed(), 12);
    }
}
