/** Long mixed runs of calls: FieldLeaves answers what the document's classes, as real ones, answer. */
public final class MachineTest {
    private static final int RUNS = 3000, CALLS = 512;
    private static final int MAKE = 0, CLEAR = 1, SHARE = 2, SAME = 3, CLS = 4, IS = 5, GET = 6, SET = 7, LINK = 8,
            FOLLOW = 9, ROW = 10, PUT = 11, LENGTH = 12, COUNT = 13, CALL = 14, RAISE = 15, PASSES = 16,
            PASSED = 17, LEAVES = 18, LEAF = 19, ALTER = 20, BACK = 21, EQUAL = 22, CHANGED = 23;
    private static final String[] NAMES = {
        "make", "clear", "share", "same", "cls", "is", "get", "set", "link", "follow", "row", "put", "length",
        "count", "call", "raise", "passes", "passed", "leaves", "leaf", "alter", "back", "equal", "changed"
    };
    /** Those that empty SLOTS, or fill them anew, come seldom: most calls should meet OBJECTS with a past. */
    private static final int[] WEIGHTS = {
        6, 1, 3, 2, 1, 2, 6, 20, 25, 2, 4, 6, 2, 3, 8, 3, 4, 1, 8, 6, 10, 5, 6, 8
    };
    private static final long[] VALUES = {
        0, 1, -1, 2, 3, 5, 23, 24, 99, 127, 128, 255, 1000, 1001, 32768, 65535, 65536, Integer.MAX_VALUE,
        Integer.MIN_VALUE, 1L << 31, 1L << 32, (1L << 32) + 1, Long.MAX_VALUE, Long.MIN_VALUE, 0x3f800000L,
        0x7f800000L, 0xff800000L, 0x7f800001L, 0xffc00000L, 0x3ff0000000000000L, 0x7ff0000000000000L,
        0xfff0000000000000L, 0x7ff0000000000001L, 0xfff8000000000000L, 0x0123456789abcdefL
    };
    private static final int[][] VALUE_FIELDS = {
        {0, 1, 2, 3, 4, 5, 6, 7}, {4, 5, 6, 7, 10, 10}, {0, 4, 6, 7, 10, 12, 12, 13}, {14}, {16},
    };
    private static final int[][] LINK_FIELDS = {{8}, {8, 11, 11}, {8, 11, 11}, {15}, {8, 11, 15}};

    private final Check check = new Check();
    private final long[] right = new long[NAMES.length];
    private final long[] failed = new long[20];
    private long seed = 20261116;

    private FieldLeaves x;
    private Machine machine;
    private int run;
    private int calls;
    private int slots;
    private int leaves;
    private boolean wrong;

    public static void main(String[] args) {
        MachineTest test = new MachineTest();
        for (int i = 0; i < RUNS; i++) {
            test.run(i);
        }
        test.showsEnough();
        test.check.end();
    }

    private int below(int bound) {
        seed = seed * 6364136223846793005L + 1442695040888963407L;
        return (int) ((seed >>> 33) % bound);
    }

    private int near(int low, int high) {
        return below(25) == 0 ? below(2) == 0 ? low - 1 : high + 1 : low + below(high - low + 1);
    }

    private int slot() {
        return below(60) == 0 ? near(0, 11) : below(slots);
    }

    private long value() {
        int i = below(VALUES.length + 12);
        return i < VALUES.length ? VALUES[i] : below(25);
    }

    private int method() {
        int sum = 0;
        for (int weight : WEIGHTS) {
            sum += weight;
        }
        int left = below(sum);
        int method = 0;
        while (left >= WEIGHTS[method]) {
            left -= WEIGHTS[method];
            method++;
        }
        return method;
    }

    private void run(int number) {
        run = number;
        x = new FieldLeaves();
        machine = new Machine();
        calls = 0;
        leaves = 0;
        wrong = false;
        // Few SLOTS make the same OBJECTS meet.
        slots = 2 + below(8);
        boolean growing = below(3) == 0;
        for (int s = 0; s < slots; s++) {
            call(MAKE, s, below(5), below(1001), 0);
        }
        while (calls < CALLS && !wrong) {
            if (growing && below(2) == 0) {
                grow(below(5) == 0 ? below(slots) : 0);
            } else {
                any();
            }
        }
    }

    /** What a SLOT holds comes behind a new OBJECT, so that chains outgrow the room for LEAVES. */
    private void grow(int s) {
        // Nothing but a STRAY leads to a STRAY, and only by 8 all others lead to one another.
        if (machine.answer(CLS, s, 0, 0, 0) >= Check.STRAY) {
            call(MAKE, s, below(3), 0, 0);
        }
        int cls = below(80) == 0 ? Check.STRAY : below(3);
        call(MAKE, 11, cls, below(1001), 0);
        call(LINK, 11, cls == Check.STRAY ? 15 : 8, s, 0);
        call(ROW, 11, below(21), 0, 0);
        call(SHARE, 11, s, 0, 0);
    }

    private void any() {
        int method = method();
        int a = method == LEAF || method == ALTER ? near(0, Math.max(0, leaves - 1)) : slot();
        if (method == ALTER && below(2) == 0) {
            relink(a);
        } else {
            call(method, a, second(method, a), third(method), value());
        }
    }

    /** The first link among the LEAVES from k on gets a number that is likely one of an OBJECT. */
    private void relink(int k) {
        int link = k;
        while (link < leaves && !isLink(machine.answer(LEAF, link, 1, 0, 0))) {
            link++;
        }
        long last = machine.answer(LEAF, leaves - 1, 0, 0, 0);
        call(ALTER, link, 0, 0, below(1 + (int) Math.max(0, last)));
    }

    private static boolean isLink(long field) {
        return field == 8 || field == 11 || field == 15;
    }

    private void call(int method, int a, int b, int c, long v) {
        if (calls >= CALLS || wrong) {
            return;
        }
        calls++;
        long due = machine.answer(method, a, b, c, v);
        long got = answer(method, a, b, c, v);
        if (got != due) {
            wrong = true;
            check.due("run " + run + ", call " + calls + ": " + NAMES[method] + " " + a + " " + b + " " + c + " " + v,
                    got, due);
        }
        if (due >= 0) {
            right[method]++;
        } else if (due > -20 && method == BACK) {
            failed[(int) -due]++;
        }
        if (method == LEAVES && due > 0) {
            leaves = (int) due;
        }
        if (method == LEAVES && due == Check.FULL) {
            failed[0]++;
        }
    }

    private int field(int[][] byClass, int s) {
        long cls = machine.answer(CLS, s, 0, 0, 0);
        if (cls < 0 || below(8) == 0) {
            return near(0, 16);
        }
        return byClass[(int) cls][below(byClass[(int) cls].length)];
    }

    private int second(int method, int s) {
        switch (method) {
            case MAKE:
            case CALL:
                return near(0, 4);
            case IS:
                return near(0, 5);
            case GET:
            case SET:
                return field(VALUE_FIELDS, s);
            case LINK:
            case FOLLOW:
                return field(LINK_FIELDS, s);
            case ROW:
                return below(3) == 0 ? near(-5, 20) : below(21);
            case PUT:
                return near(0, 8);
            case COUNT:
            case LEAF:
                return near(0, 2);
            case PASSES:
                return near(1, 12);
            default:
                return slot();
        }
    }

    private int third(int method) {
        switch (method) {
            case MAKE:
                return near(0, 1000);
            case PUT:
                return (int) value();
            case CHANGED:
                return near(0, 4);
            default:
                return slot();
        }
    }

    private long answer(int method, int a, int b, int c, long v) {
        switch (method) {
            case MAKE: return x.make(a, b, c);
            case CLEAR: return x.clear(a);
            case SHARE: return x.share(a, b);
            case SAME: return x.same(a, b);
            case CLS: return x.cls(a);
            case IS: return x.is(a, b);
            case GET: return x.get(a, b);
            case SET: return x.set(a, b, v);
            case LINK: return x.link(a, b, c);
            case FOLLOW: return x.follow(a, b, c);
            case ROW: return x.row(a, b);
            case PUT: return x.put(a, b, c);
            case LENGTH: return x.length(a);
            case COUNT: return x.count(a, b);
            case CALL: return x.call(a, b);
            case RAISE: return x.raise(a);
            case PASSES: return x.passes(a, b);
            case PASSED: return x.passed();
            case LEAVES: return x.leaves(a);
            case LEAF: return x.leaf(a, b);
            case ALTER: return x.alter(a, v);
            case BACK: return x.back(a);
            case EQUAL: return x.equal(a, b);
            default: return x.changed(a, b, c);
        }
    }

    /** Runs in which a call hardly ever comes right, or never fails in its own way, would show little. */
    private void showsEnough() {
        for (int method = 0; method < NAMES.length; method++) {
            check.due(NAMES[method] + " came right often", right[method] > RUNS ? 1 : 0, 1);
        }
        check.due("leaves were FULL often", failed[0] > RUNS / 10 ? 1 : 0, 1);
        for (int answer : new int[] {Check.FULL, Check.PLACE, Check.CLASS, Check.MAKER}) {
            check.due("back was " + answer + " often", failed[-answer] > RUNS / 30 ? 1 : 0, 1);
        }
    }
}
