/** Counts the calls whose answer is not the one that is due, and ends the test with them. */
final class Check {
    static final int NOTHING = -11, PLACE = -12, SIZE = -13, CLASS = -14, FINAL = -17, MAKER = -18;
    static final int BASE = 0, MIDDLE = 1, TIP = 2, STRAY = 3, SIGNAL = 4, LINKED = 5;
    static final int BAD = FieldLeaves.BAD, FULL = FieldLeaves.FULL, NONE = FieldLeaves.NONE;
    static final int[] NO_SLOTS = {-1, 12, Integer.MIN_VALUE, Integer.MAX_VALUE};

    private int wrong = 0;

    void due(String call, long got, long want) {
        if (got != want) {
            wrong++;
            System.out.println(call + " answered " + got + ", due is " + want);
        }
    }

    void end() {
        System.out.println(wrong == 0 ? "all answers are as due" : wrong + " answers are not as due");
        if (wrong != 0) {
            System.exit(1);
        }
    }

    /** SLOTS 0 to 4 hold an OBJECT of the CLASS of that number (told n), the others NOTHING. */
    static FieldLeaves oneOfEach(int n) {
        FieldLeaves x = new FieldLeaves();
        for (int cls = BASE; cls <= SIGNAL; cls++) {
            x.make(cls, cls, n);
        }
        return x;
    }

    /** SLOT s holds the first of a chain of BASES, linked by 8; SLOT 11 is used on the way. */
    static void chain(FieldLeaves x, int s, int size) {
        x.make(s, BASE, 0);
        for (int i = 1; i < size; i++) {
            x.make(11, BASE, 0);
            x.link(11, 8, s);
            x.share(11, s);
        }
        x.clear(11);
    }
}
