/** The boundary cases of the methods and of promises 16 to 19, a test for each sentence. */
public final class MethodsEdgesTest {
    private static final Check check = new Check();
    private static final Twins twins = new Twins(check);
    private static final int LEAST = Integer.MIN_VALUE, MOST = Integer.MAX_VALUE;
    private static final int NAME = 0, SECRET = 1, DEPTH = 2, KIND = 3, NAME_OF_8 = 4;

    public static void main(String[] args) {
        nameOfBase();
        nameOfMiddle();
        nameOfTip();
        depthOfNothing();
        depthByFields();
        depthAtMost();
        kinds();
        kindByEight();
        eighthKind();
        secret();
        callOfBaseAndBelow();
        callOfLinked();
        nameOfEight();
        callMayBeBad();
        raise();
        raiseMayBeBad();
        raiseFails();
        passes();
        passesAnswersCode();
        passesMayBeBad();
        passesFails();
        passed();
        check.end();
    }

    private static int name(int cls, int mark, long count, long own) {
        FieldLeaves x = new FieldLeaves();
        x.make(0, cls, mark);
        x.set(0, 4, count);
        x.set(0, 10, own);
        // The count of a TIP is in no NAME.
        x.set(0, 12, 1234567);
        return x.call(0, NAME);
    }

    private static void nameOfBase() {
        check.says(Check.TERMS, "NAME: of a BASE 1 and its count (4)");
        check.due("name of -1", name(Check.BASE, 0, -1, 0), 0);
        check.due("name of 0", name(Check.BASE, 0, 0, 0), 1);
        check.due("name of the least", name(Check.BASE, 0, LEAST, 0), LEAST + 1);
        check.due("name of the most but one", name(Check.BASE, 0, MOST - 1, 0), MOST);
        check.says(Check.TERMS, "All run over");
        check.due("name of the most", name(Check.BASE, 0, MOST, 0), LEAST);
    }

    private static void nameOfMiddle() {
        check.says(Check.TERMS, "of a MIDDLE 10 times that of a BASE, and its own count (10)");
        check.due("name of 0, 0", name(Check.MIDDLE, 0, 0, 0), 10);
        check.due("name of 6, 3", name(Check.MIDDLE, 0, 6, 3), 73);
        check.due("name up to the most", name(Check.MIDDLE, 0, 214748363, 7), MOST);
        check.due("name down to the least", name(Check.MIDDLE, 0, -214748365, -8), LEAST);
        check.says(Check.TERMS, "All run over");
        check.due("name above the most", name(Check.MIDDLE, 0, 214748363, 8), LEAST);
        check.due("name below the least", name(Check.MIDDLE, 0, -214748365, -9), MOST);
        check.due("10 times runs over", name(Check.MIDDLE, 0, 214748364, 0), LEAST + 2);
        check.due("1 more runs over", name(Check.MIDDLE, 0, MOST, 5), 5);
        check.due("the most of its own", name(Check.MIDDLE, 0, 0, MOST), LEAST + 9);
        check.due("the least of its own", name(Check.MIDDLE, 0, -2, LEAST), MOST - 9);
    }

    private static void nameOfTip() {
        check.says(Check.TERMS, "of a TIP what that of a MIDDLE is, and its mark");
        check.due("name of 0, 0, 0", name(Check.TIP, 0, 0, 0), 10);
        check.due("name of 6, 3, 1000", name(Check.TIP, 1000, 6, 3), 1073);
        check.due("name up to the most", name(Check.TIP, 7, 214748363, 0), MOST);
        check.says(Check.TERMS, "All run over");
        check.due("name above the most", name(Check.TIP, 8, 214748363, 0), LEAST);
        check.due("name far above the most", name(Check.TIP, 1000, 214748363, 7), LEAST + 999);
    }

    private static void depthOfNothing() {
        check.says(Check.TERMS, "DEPTH of a LINKED: 0, if it leads to NOTHING");
        FieldLeaves x = Check.oneOfEach(0);
        for (int s = Check.BASE; s <= Check.STRAY; s++) {
            check.due("depth of " + s, x.call(s, DEPTH), 0);
        }
    }

    private static void depthByFields() {
        check.says(Check.TERMS, "else 1 more than that of what it leads to: "
                + "by 8 of a BASE, by 11 of a MIDDLE or TIP, by 15 of a STRAY");
        FieldLeaves x = Check.oneOfEach(0);
        for (int s : new int[] {1, 2}) {
            x.link(s, 8, s);
            check.due("8 of " + s, x.call(s, DEPTH), 0);
        }
        x.link(2, 11, 1);
        check.due("11 of a TIP", x.call(2, DEPTH), 1);
        x.link(0, 8, 2);
        check.due("8 of a BASE", x.call(0, DEPTH), 2);
        x.link(3, 15, 0);
        check.due("15 of a STRAY", x.call(3, DEPTH), 3);
        x.make(5, Check.MIDDLE, 0);
        x.link(1, 11, 5);
        check.due("11 of a MIDDLE", x.call(3, DEPTH), 4);
    }

    private static void depthAtMost() {
        check.says(Check.TERMS, "50 at most");
        int[][] chains = {{Check.BASE, 8}, {Check.MIDDLE, 11}, {Check.TIP, 11}, {Check.STRAY, 15}};
        for (int[] each : chains) {
            for (int size : new int[] {2, 50, 51, 52, 100}) {
                FieldLeaves x = new FieldLeaves();
                Check.chain(x, 0, size, each[0], each[1]);
                check.due("depth of " + size + " of " + each[0], x.call(0, DEPTH), Math.min(50, size - 1));
            }
            FieldLeaves x = new FieldLeaves();
            x.make(0, each[0], 0);
            x.link(0, each[1], 0);
            check.due("depth of what leads to itself", x.call(0, DEPTH), 50);
        }
    }

    private static void kinds() {
        check.says(Check.TERMS, "KIND of a LINKED: of a STRAY 7; of others 1, 2, 3 for BASE, MIDDLE, TIP");
        FieldLeaves x = Check.oneOfEach(0);
        int[] due = {1, 2, 3, 7};
        for (int s = Check.BASE; s <= Check.STRAY; s++) {
            check.due("kind of " + s, x.call(s, KIND), due[s]);
        }
        x.link(3, 15, 0);
        check.due("kind of a STRAY that leads to a BASE", x.call(3, KIND), 7);
        x.link(3, 15, 3);
        check.due("kind of a STRAY that leads to itself", x.call(3, KIND), 7);
    }

    private static void kindByEight() {
        check.says(Check.TERMS, "10 times KIND of what 8 holds (of a MIDDLE, TIP, too), if it holds something");
        FieldLeaves x = Check.oneOfEach(0);
        x.link(1, 11, 2);
        x.link(2, 11, 1);
        check.due("11 of a MIDDLE", x.call(1, KIND), 2);
        check.due("11 of a TIP", x.call(2, KIND), 3);
        x.link(1, 8, 0);
        check.due("8 of a MIDDLE", x.call(1, KIND), 12);
        x.link(2, 8, 1);
        check.due("8 of a TIP", x.call(2, KIND), 123);
        x.make(5, Check.BASE, 0);
        x.link(5, 8, 2);
        check.due("8 of a BASE", x.call(5, KIND), 1231);
    }

    private static void eighthKind() {
        check.says(Check.TERMS, "(the eighth one, counted from that asked, adds nothing more)");
        int[] kinds = {1, 11, 111, 1111, 11111, 111111, 1111111, 11111111, 11111111, 11111111};
        for (int size = 1; size <= kinds.length; size++) {
            FieldLeaves x = new FieldLeaves();
            Check.chain(x, 0, size);
            check.due("kind of " + size, x.call(0, KIND), kinds[size - 1]);
        }
        FieldLeaves x = Check.oneOfEach(0);
        x.link(2, 8, 2);
        check.due("kind of a TIP that holds itself", x.call(2, KIND), 33333333);
        x.link(1, 8, 0);
        x.link(0, 8, 1);
        check.due("kind of a ring", x.call(1, KIND), 12121212);
        check.due("kind of the other one", x.call(0, KIND), 21212121);
    }

    private static void secret() {
        check.says(Check.TERMS, "SECRET of a BASE and what is below: its tiny and its small together");
        FieldLeaves x = Check.oneOfEach(0);
        for (int s = Check.BASE; s <= Check.TIP; s++) {
            check.due("secret at first", x.call(s, SECRET), 0);
            x.set(s, 1, Byte.MAX_VALUE);
            x.set(s, 2, Short.MAX_VALUE);
            check.due("the most", x.call(s, SECRET), 32894);
            x.set(s, 1, Byte.MIN_VALUE);
            check.due("one up, one down", x.call(s, SECRET), 32639);
            x.set(s, 2, Short.MIN_VALUE);
            check.due("the least", x.call(s, SECRET), -32896);
        }
    }

    private static void callOfBaseAndBelow() {
        check.says(16, "NAME (what = 0), SECRET (1): of a BASE and what is below");
        for (int s = Check.BASE; s <= Check.TIP; s++) {
            FieldLeaves x = Check.oneOfEach(0);
            check.due("name of " + s, x.call(s, NAME), s == Check.BASE ? 1 : 10);
            check.due("secret of " + s, x.call(s, SECRET), 0);
        }
        check.says(16, "FAILURES 4, 1");
        for (int what : new int[] {NAME, SECRET, NAME_OF_8}) {
            twins.same("call " + what + " of a STRAY", Check.CLASS, x -> x.call(3, what));
            twins.same("call " + what + " of a SIGNAL", Check.CLASS, x -> x.call(4, what));
            twins.same("call " + what + " of NOTHING", Check.NOTHING, x -> x.call(11, what));
        }
    }

    private static void callOfLinked() {
        check.says(16, "DEPTH (2), KIND (3) of a LINKED");
        twins.same("depth of a STRAY", 50, x -> x.call(3, DEPTH));
        twins.same("kind of a STRAY", 7, x -> x.call(3, KIND));
        check.says(16, "FAILURES 4, 1");
        for (int what : new int[] {DEPTH, KIND}) {
            twins.same("call " + what + " of a SIGNAL", Check.CLASS, x -> x.call(4, what));
            twins.same("call " + what + " of NOTHING", Check.NOTHING, x -> x.call(11, what));
        }
    }

    private static void nameOfEight() {
        check.says(16, "4: NAME of what its FIELD 8 holds");
        FieldLeaves x = Check.oneOfEach(5);
        x.link(1, 11, 1);
        x.link(2, 11, 1);
        for (int s = Check.BASE; s <= Check.TIP; s++) {
            check.due("8 of " + s + " holds NOTHING", x.call(s, NAME_OF_8), Check.NOTHING);
            x.link(s, 8, s);
            check.due("8 of " + s + " holds itself", x.call(s, NAME_OF_8), x.call(s, NAME));
        }
        x.link(1, 8, 2);
        check.due("8 of a MIDDLE holds a TIP", x.call(1, NAME_OF_8), 15);
    }

    private static void callMayBeBad() {
        check.says(16, "BAD (which it may be)");
        check.due("name of -2", name(Check.BASE, 0, -2, 0), -1);
        check.due("name of -15", name(Check.BASE, 0, -15, 0), Check.CLASS);
        FieldLeaves x = Check.oneOfEach(0);
        x.set(0, 1, -1);
        check.due("secret of -1", x.call(0, SECRET), -1);
        for (int what : new int[] {-1, 5, LEAST, MOST}) {
            for (int s : new int[] {0, 2, 3, 4, 9}) {
                twins.same("call " + what + " of " + s, Check.BAD, y -> y.call(s, what));
            }
        }
        for (int what = NAME; what <= NAME_OF_8; what++) {
            int called = what;
            twins.slots("call " + what, (y, s) -> y.call(s, called));
        }
    }

    private static void raise() {
        check.says(17, "What a SLOT holds is thrown: its code, if it is a SIGNAL");
        FieldLeaves x = new FieldLeaves();
        for (int code : new int[] {0, 1, LEAST, MOST}) {
            x.make(11, Check.SIGNAL, code);
            check.due("raise " + code, x.raise(11), code);
            check.due("raise " + code + " again", x.raise(11), code);
        }
        twins.same("raise", 9, y -> y.raise(4));
    }

    private static void raiseMayBeBad() {
        check.says(17, "BAD (which it may be)");
        FieldLeaves x = new FieldLeaves();
        for (int code : new int[] {-1, Check.NOTHING, Check.CLASS}) {
            x.make(0, Check.SIGNAL, code);
            check.due("raise " + code, x.raise(0), code);
        }
        twins.slots("raise", (y, s) -> y.raise(s));
    }

    private static void raiseFails() {
        check.says(17, "FAILURES 4, 1");
        for (int cls = Check.BASE; cls <= Check.STRAY; cls++) {
            int s = cls;
            twins.same("raise " + cls, Check.CLASS, x -> x.raise(s));
        }
        twins.same("raise NOTHING", Check.NOTHING, x -> x.raise(11));
    }

    private static void passes() {
        check.says(18, "within n calls (1 .. 12) in one another, each of which adds 1 to what passed() tells");
        FieldLeaves x = Check.oneOfEach(77);
        for (int n : new int[] {1, 2, 11, 12, 1}) {
            check.due("passes " + n, x.passes(4, n), 77);
            check.due("passed " + n, x.passed(), n);
        }
        for (int n : new int[] {0, 13, -1, LEAST, MOST}) {
            twins.same("passes " + n, Check.BAD, y -> y.passes(4, n));
            twins.same("passes " + n + " of NOTHING", Check.BAD, y -> y.passes(9, n));
            twins.same("passes " + n + " of a BASE", Check.BAD, y -> y.passes(0, n));
        }
    }

    private static void passesAnswersCode() {
        check.says(18, "comes it back or not; the outermost one answers its code");
        FieldLeaves x = new FieldLeaves();
        for (int code : new int[] {0, 1, 12, LEAST, MOST}) {
            x.make(11, Check.SIGNAL, code);
            for (int n : new int[] {1, 12}) {
                check.due("passes " + n + " with " + code, x.passes(11, n), code);
                check.due("passed " + n + " with " + code, x.passed(), n);
            }
        }
    }

    private static void passesMayBeBad() {
        check.says(18, "BAD (which it may be)");
        FieldLeaves x = new FieldLeaves();
        for (int code : new int[] {-1, Check.NOTHING, Check.CLASS, LEAST, MOST, 0}) {
            x.make(0, Check.SIGNAL, code);
            x.passes(0, 1);
            check.due("passes with " + code, x.passes(0, 12), code);
            check.due("passed with " + code, x.passed(), 12);
        }
        twins.slots("passes", (y, s) -> y.passes(s, 3));
    }

    private static void passesFails() {
        check.says(18, "FAILURES 4, 1, thrown likewise");
        FieldLeaves x = Check.oneOfEach(77);
        for (int n : new int[] {12, 1, 7}) {
            for (int s = Check.BASE; s <= Check.STRAY; s++) {
                x.passes(4, 3);
                check.due("passes " + n + " of " + s, x.passes(s, n), Check.CLASS);
                check.due("passed " + n + " of " + s, x.passed(), n);
            }
            x.passes(4, 3);
            check.due("passes " + n + " of NOTHING", x.passes(11, n), Check.NOTHING);
            check.due("passed " + n + " of NOTHING", x.passed(), n);
        }
    }

    private static void passed() {
        check.says(19, "What the latest passes() that was not BAD counted");
        FieldLeaves x = Check.oneOfEach(-1);
        x.passes(4, 12);
        x.passes(4, 2);
        check.due("the latest, fewer than before", x.passed(), 2);
        x.passes(4, 0);
        x.passes(4, 13);
        x.passes(-1, 5);
        x.passes(12, 5);
        check.due("the latest were BAD", x.passed(), 2);
        x.raise(4);
        x.raise(0);
        check.due("raise is none", x.passed(), 2);
        x.passes(0, 6);
        check.due("the latest FAILED", x.passed(), 6);
        check.due("asked again", x.passed(), 6);
    }
}
