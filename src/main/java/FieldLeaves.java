/** Objects of a few classes in slots: read, written, linked, told as leaves and made again from them. */
public final class FieldLeaves {
    public static final int BAD = -1, FULL = -3, NONE = -4;

    private static final int FAILS_NOTHING = -11;
    private static final int FAILS_PLACE = -12;
    private static final int FAILS_SIZE = -13;
    private static final int FAILS_CLASS = -14;
    private static final int FAILS_FINAL = -17;
    private static final int FAILS_MAKER = -18;
    private static final int NO_FAILURE = 0;

    private static final int SLOTS = 12;
    private static final int MOST_INTS = 20;
    private static final int MOST_MARK = 1000;
    private static final int MOST_PASSES = 12;
    private static final int MOST_DEPTH = 50;
    private static final int MOST_KINDS = 8;
    private static final int MOST_OBJECTS = 24;
    private static final int MOST_LEAVES = 300;

    private static final int BASE = 0;
    private static final int MIDDLE = 1;
    private static final int TIP = 2;
    private static final int STRAY = 3;
    private static final int SIGNAL = 4;
    private static final int LINKED = 5;

    private static final int TINY = 1;
    private static final int SMALL = 2;
    private static final int BASE_COUNT = 4;
    private static final int BASE_LINK = 8;
    private static final int ROW = 9;
    private static final int MIDDLE_COUNT = 10;
    private static final int MIDDLE_LINK = 11;
    private static final int TIP_COUNT = 12;
    private static final int MARK = 13;
    private static final int STRAY_BACK = 15;
    private static final int CODE = 16;
    private static final int FIELDS = 17;

    private static final int CALL_NAME = 0;
    private static final int CALL_SECRET = 1;
    private static final int CALL_DEPTH = 2;
    private static final int CALL_KIND = 3;
    private static final int CALL_NAME_OF_LINK = 4;

    private static final int LEAF_NUMBER = 0;
    private static final int LEAF_FIELD = 1;
    private static final int LEAF_VALUE = 2;

    private static final int CLASS_LEAF = -1;
    private static final int FIRST_PLACE = 100;

    private static final int IS_FLAG = 0;
    private static final int IS_BYTE = 1;
    private static final int IS_SHORT = 2;
    private static final int IS_CHAR = 3;
    private static final int IS_INT = 4;
    private static final int IS_LONG = 5;
    private static final int IS_FLOAT = 6;
    private static final int IS_DOUBLE = 7;
    private static final int IS_LINK = 8;
    private static final int IS_ROW = 9;

    /** By FIELD: the highest CLASS that has it. */
    private static final int[] OWNER = {
        BASE, BASE, BASE, BASE, BASE, BASE, BASE, BASE, BASE, BASE,
        MIDDLE, MIDDLE, TIP, TIP, STRAY, STRAY, SIGNAL
    };

    /** By FIELD: what it is made to hold. */
    private static final int[] FORM = {
        IS_FLAG, IS_BYTE, IS_SHORT, IS_CHAR, IS_INT, IS_LONG, IS_FLOAT, IS_DOUBLE, IS_LINK, IS_ROW,
        IS_INT, IS_LINK, IS_LONG, IS_INT, IS_DOUBLE, IS_LINK, IS_INT
    };

    /** By CLASS, as which an OBJECT is looked at: the FIELD count that is seen. */
    private static final int[] COUNT_OF = {BASE_COUNT, MIDDLE_COUNT, TIP_COUNT};

    private static final int FLOAT_NO_SIGN = 0x7fffffff;
    private static final int FLOAT_INFINITE = 0x7f800000;
    private static final int FLOAT_NO_NUMBER = 0x7fc00000;
    private static final long DOUBLE_NO_SIGN = 0x7fffffffffffffffL;
    private static final long DOUBLE_INFINITE = 0x7ff0000000000000L;
    private static final long DOUBLE_NO_NUMBER = 0x7ff8000000000000L;

    /** An OBJECT of any CLASS; the FIELDS that its CLASS lacks stay 0 and NOTHING. */
    private static final class Thing {
        final int classNumber;
        // Kept as they are told: a float or double that is no number could not be held as one.
        final long[] values = new long[FIELDS];
        Thing baseLink;
        Thing middleLink;
        Thing strayBack;
        int[] ints;

        Thing(int classNumber, int told) {
            this.classNumber = classNumber;
            if (classNumber == TIP) {
                values[MARK] = told;
            } else if (classNumber == SIGNAL) {
                values[CODE] = told;
            }
        }

        boolean isOf(int wanted) {
            if (wanted == LINKED) {
                return classNumber != SIGNAL;
            }
            if (wanted <= TIP) {
                return classNumber >= wanted && classNumber <= TIP;
            }
            return classNumber == wanted;
        }

        Thing held(int field) {
            switch (field) {
                case BASE_LINK:
                    return baseLink;
                case MIDDLE_LINK:
                    return middleLink;
                case STRAY_BACK:
                    return strayBack;
                default:
                    return null;
            }
        }

        void hold(int field, Thing what) {
            switch (field) {
                case BASE_LINK:
                    baseLink = what;
                    break;
                case MIDDLE_LINK:
                    middleLink = what;
                    break;
                case STRAY_BACK:
                    strayBack = what;
                    break;
                default:
                    break;
            }
        }

        Thing leadsTo() {
            if (classNumber == BASE) {
                return baseLink;
            }
            return classNumber == STRAY ? strayBack : middleLink;
        }

        int name() {
            int name = 1 + (int) values[BASE_COUNT];
            if (classNumber == BASE) {
                return name;
            }
            // The mark of what is no TIP is 0.
            return 10 * name + (int) values[MIDDLE_COUNT] + (int) values[MARK];
        }

        int secret() {
            return (int) values[TINY] + (int) values[SMALL];
        }

        int depth() {
            int depth = 0;
            Thing next = leadsTo();
            while (next != null && depth < MOST_DEPTH) {
                depth++;
                next = next.leadsTo();
            }
            return depth;
        }

        int kind() {
            if (classNumber == STRAY) {
                return 7;
            }
            int sum = 0;
            int weight = 1;
            Thing next = this;
            for (int i = 0; i < MOST_KINDS && next != null; i++) {
                sum += weight * (next.classNumber + 1);
                weight *= 10;
                next = next.baseLink;
            }
            return sum;
        }
    }

    /** LEAVES in their order, with room for as many as the document allows. */
    private static final class LeafList {
        final int[] numbers = new int[MOST_LEAVES];
        final int[] fields = new int[MOST_LEAVES];
        final long[] values = new long[MOST_LEAVES];
        int size;

        boolean has(int k) {
            return k >= 0 && k < size;
        }

        /** False, if there is no room. */
        boolean add(int number, int field, long value) {
            if (size >= MOST_LEAVES) {
                return false;
            }
            numbers[size] = number;
            fields[size] = field;
            values[size] = value;
            size++;
            return true;
        }

        boolean sameAs(LeafList other) {
            if (size != other.size) {
                return false;
            }
            for (int k = 0; k < size; k++) {
                if (numbers[k] != other.numbers[k] || fields[k] != other.fields[k]
                        || values[k] != other.values[k]) {
                    return false;
                }
            }
            return true;
        }

        /** What the maker of the OBJECT whose CLASS is LEAF k is told. */
        int toldToMaker(int k) {
            for (int i = k + 1; i < size && fields[i] != CLASS_LEAF; i++) {
                if (isFinal(fields[i])) {
                    return (int) asTold(fields[i], values[i]);
                }
            }
            return 0;
        }
    }

    private final Thing[] slots = new Thing[SLOTS];
    private int passedCount;

    private LeafList current = new LeafList();
    // A telling that turns out to have no room must not touch the LEAVES that there are.
    private LeafList spare = new LeafList();
    private final LeafList second = new LeafList();
    private final Thing[] found = new Thing[MOST_OBJECTS];
    private int foundCount;
    private final Thing[] made = new Thing[MOST_OBJECTS];
    private int madeCount;

    public FieldLeaves() {
    }

    public int make(int s, int cls, int n) {
        if (!isSlot(s) || cls < BASE || cls > SIGNAL) {
            return BAD;
        }
        if (!makerTakes(cls, n)) {
            return FAILS_MAKER;
        }
        slots[s] = new Thing(cls, n);
        return 1;
    }

    public int clear(int s) {
        if (!isSlot(s)) {
            return BAD;
        }
        int held = slots[s] == null ? 0 : 1;
        slots[s] = null;
        return held;
    }

    public int share(int s, int t) {
        if (!isSlot(s) || !isSlot(t)) {
            return BAD;
        }
        slots[t] = slots[s];
        return 1;
    }

    public int same(int s, int t) {
        if (!isSlot(s) || !isSlot(t)) {
            return BAD;
        }
        return slots[s] == slots[t] ? 1 : 0;
    }

    public int cls(int s) {
        if (!isSlot(s)) {
            return BAD;
        }
        Thing thing = slots[s];
        return thing == null ? NONE : thing.classNumber;
    }

    public int is(int s, int cls) {
        if (!isSlot(s) || cls < BASE || cls > LINKED) {
            return BAD;
        }
        Thing thing = slots[s];
        return thing != null && thing.isOf(cls) ? 1 : 0;
    }

    public long get(int s, int field) {
        if (!isSlot(s) || !isValueField(field)) {
            return BAD;
        }
        Thing thing = slots[s];
        int failure = failureAs(thing, OWNER[field]);
        return failure != NO_FAILURE ? failure : thing.values[field];
    }

    public int set(int s, int field, long v) {
        if (!isSlot(s) || !isValueField(field)) {
            return BAD;
        }
        Thing thing = slots[s];
        int failure = failureAs(thing, OWNER[field]);
        if (failure != NO_FAILURE) {
            return failure;
        }
        if (isFinal(field)) {
            return FAILS_FINAL;
        }
        thing.values[field] = asTold(field, v);
        return 1;
    }

    public int link(int s, int field, int t) {
        if (!isSlot(s) || !isLinkField(field) || !isSlot(t)) {
            return BAD;
        }
        Thing thing = slots[s];
        Thing what = slots[t];
        if (thing != null && !thing.isOf(OWNER[field])) {
            return FAILS_CLASS;
        }
        if (what != null && !what.isOf(wantedIn(field))) {
            return FAILS_CLASS;
        }
        if (thing == null) {
            return FAILS_NOTHING;
        }
        thing.hold(field, what);
        return 1;
    }

    public int follow(int s, int field, int t) {
        if (!isSlot(s) || !isLinkField(field) || !isSlot(t)) {
            return BAD;
        }
        Thing thing = slots[s];
        int failure = failureAs(thing, OWNER[field]);
        if (failure != NO_FAILURE) {
            return failure;
        }
        slots[t] = thing.held(field);
        return 1;
    }

    public int row(int s, int n) {
        if (!isSlot(s) || n > MOST_INTS) {
            return BAD;
        }
        Thing thing = slots[s];
        if (thing != null && !thing.isOf(BASE)) {
            return FAILS_CLASS;
        }
        if (n < 0 && n != NONE) {
            return FAILS_SIZE;
        }
        if (thing == null) {
            return FAILS_NOTHING;
        }
        thing.ints = n == NONE ? null : new int[n];
        return n;
    }

    public int put(int s, int i, int v) {
        if (!isSlot(s)) {
            return BAD;
        }
        Thing thing = slots[s];
        int failure = failureOfRow(thing);
        if (failure != NO_FAILURE) {
            return failure;
        }
        if (i < 0 || i >= thing.ints.length) {
            return FAILS_PLACE;
        }
        int was = thing.ints[i];
        thing.ints[i] = v;
        return was;
    }

    public int length(int s) {
        if (!isSlot(s)) {
            return BAD;
        }
        Thing thing = slots[s];
        int failure = failureOfRow(thing);
        return failure != NO_FAILURE ? failure : thing.ints.length;
    }

    public long count(int s, int cls) {
        if (!isSlot(s) || cls < BASE || cls > TIP) {
            return BAD;
        }
        Thing thing = slots[s];
        int failure = failureAs(thing, cls);
        return failure != NO_FAILURE ? failure : thing.values[COUNT_OF[cls]];
    }

    public int call(int s, int what) {
        if (!isSlot(s) || what < CALL_NAME || what > CALL_NAME_OF_LINK) {
            return BAD;
        }
        Thing thing = slots[s];
        int failure = failureAs(thing, what == CALL_DEPTH || what == CALL_KIND ? LINKED : BASE);
        if (failure != NO_FAILURE) {
            return failure;
        }
        switch (what) {
            case CALL_NAME:
                return thing.name();
            case CALL_SECRET:
                return thing.secret();
            case CALL_DEPTH:
                return thing.depth();
            case CALL_KIND:
                return thing.kind();
            default:
                return thing.baseLink == null ? FAILS_NOTHING : thing.baseLink.name();
        }
    }

    public int raise(int s) {
        return isSlot(s) ? thrown(slots[s]) : BAD;
    }

    public int passes(int s, int n) {
        if (!isSlot(s) || n < 1 || n > MOST_PASSES) {
            return BAD;
        }
        // Every one of the n calls counts, whether a code or a FAILURE goes out through it.
        passedCount = n;
        return thrown(slots[s]);
    }

    public int passed() {
        return passedCount;
    }

    public int leaves(int s) {
        if (!isSlot(s)) {
            return BAD;
        }
        Thing thing = slots[s];
        if (thing == null) {
            return FAILS_NOTHING;
        }
        if (!tell(thing, spare)) {
            return FULL;
        }
        LeafList old = current;
        current = spare;
        spare = old;
        return current.size;
    }

    public long leaf(int k, int what) {
        if (!current.has(k) || what < LEAF_NUMBER || what > LEAF_VALUE) {
            return BAD;
        }
        if (what == LEAF_NUMBER) {
            return current.numbers[k];
        }
        return what == LEAF_FIELD ? current.fields[k] : current.values[k];
    }

    public int alter(int k, long v) {
        if (!current.has(k) || current.fields[k] == CLASS_LEAF || current.fields[k] == ROW) {
            return BAD;
        }
        current.values[k] = v;
        return 1;
    }

    public int back(int s) {
        if (!isSlot(s)) {
            return BAD;
        }
        if (current.size == 0) {
            return FULL;
        }
        int failure = makeFromLeaves();
        if (failure == NO_FAILURE) {
            failure = fillFromLeaves();
        }
        if (failure != NO_FAILURE) {
            return failure;
        }
        slots[s] = made[0];
        return madeCount;
    }

    public int equal(int s, int t) {
        if (!isSlot(s) || !isSlot(t)) {
            return BAD;
        }
        Thing one = slots[s];
        Thing other = slots[t];
        if (one != null && !tell(one, spare) || other != null && !tell(other, second)) {
            return FULL;
        }
        if (one == null || other == null) {
            return one == other ? 1 : 0;
        }
        return spare.sameAs(second) ? 1 : 0;
    }

    public int changed(int s, int t, int k) {
        if (!isSlot(s) || !isSlot(t) || k < 0) {
            return BAD;
        }
        Thing one = slots[s];
        Thing other = slots[t];
        if (one == null || other == null) {
            return FAILS_NOTHING;
        }
        if (one.classNumber != other.classNumber) {
            return FAILS_CLASS;
        }
        int before = 0;
        for (int field = 0; field < FIELDS; field++) {
            if (differ(one, other, field)) {
                if (before == k) {
                    return field;
                }
                before++;
            }
        }
        return NONE;
    }

    private static boolean isSlot(int s) {
        return s >= 0 && s < SLOTS;
    }

    private static boolean isField(int field) {
        return field >= 0 && field < FIELDS;
    }

    private static boolean isLinkField(int field) {
        return isField(field) && FORM[field] == IS_LINK;
    }

    private static boolean isValueField(int field) {
        return isField(field) && FORM[field] != IS_LINK && FORM[field] != IS_ROW;
    }

    private static boolean isFinal(int field) {
        return field == MARK || field == CODE;
    }

    private static boolean makerTakes(int classNumber, int told) {
        return classNumber != TIP || told >= 0 && told <= MOST_MARK;
    }

    /** The CLASS that what a link FIELD holds must be of. */
    private static int wantedIn(int field) {
        if (field == BASE_LINK) {
            return BASE;
        }
        return field == MIDDLE_LINK ? MIDDLE : LINKED;
    }

    /** The FAILURE of using an OBJECT as one of a CLASS; without one, it is not null. */
    private static int failureAs(Thing thing, int wanted) {
        if (thing == null) {
            return FAILS_NOTHING;
        }
        return thing.isOf(wanted) ? NO_FAILURE : FAILS_CLASS;
    }

    /** The FAILURE of using the row of an OBJECT; without one, both are not null. */
    private static int failureOfRow(Thing thing) {
        int failure = failureAs(thing, BASE);
        if (failure != NO_FAILURE) {
            return failure;
        }
        return thing.ints == null ? FAILS_NOTHING : NO_FAILURE;
    }

    private static int thrown(Thing thing) {
        int failure = failureAs(thing, SIGNAL);
        return failure != NO_FAILURE ? failure : (int) thing.values[CODE];
    }

    /** What a FIELD tells after it was given v. */
    private static long asTold(int field, long v) {
        switch (FORM[field]) {
            case IS_FLAG:
                return v & 1;
            case IS_BYTE:
                return (byte) v;
            case IS_SHORT:
                return (short) v;
            case IS_CHAR:
                return (char) v;
            case IS_INT:
                return (int) v;
            case IS_FLOAT:
                return floatAsTold((int) v);
            case IS_DOUBLE:
                return doubleAsTold(v);
            default:
                return v;
        }
    }

    private static int floatAsTold(int bits) {
        return (bits & FLOAT_NO_SIGN) > FLOAT_INFINITE ? FLOAT_NO_NUMBER : bits;
    }

    private static long doubleAsTold(long bits) {
        return (bits & DOUBLE_NO_SIGN) > DOUBLE_INFINITE ? DOUBLE_NO_NUMBER : bits;
    }

    private static boolean differ(Thing one, Thing other, int field) {
        if (FORM[field] == IS_LINK) {
            return one.held(field) != other.held(field);
        }
        if (FORM[field] == IS_ROW) {
            return differInInts(one.ints, other.ints);
        }
        return one.values[field] != other.values[field];
    }

    private static boolean differInInts(int[] one, int[] other) {
        if (one == null || other == null) {
            return one != null || other != null;
        }
        if (one.length != other.length) {
            return true;
        }
        for (int i = 0; i < one.length; i++) {
            if (one[i] != other[i]) {
                return true;
            }
        }
        return false;
    }

    /** Puts the LEAVES of an OBJECT in a list, in place of what it has; false, if there is no room. */
    private boolean tell(Thing first, LeafList into) {
        into.size = 0;
        if (!findFrom(first)) {
            return false;
        }
        for (int number = 0; number < foundCount; number++) {
            if (!tellObject(number, into)) {
                return false;
            }
        }
        return true;
    }

    private boolean findFrom(Thing first) {
        found[0] = first;
        foundCount = 1;
        for (int i = 0; i < foundCount && i < MOST_OBJECTS; i++) {
            Thing each = found[i];
            if (!addFound(each.baseLink) || !addFound(each.middleLink) || !addFound(each.strayBack)) {
                return false;
            }
        }
        return true;
    }

    /** False, if there is no room for an OBJECT that was not found yet. */
    private boolean addFound(Thing thing) {
        if (thing == null || numberOf(thing) >= 0) {
            return true;
        }
        if (foundCount >= MOST_OBJECTS) {
            return false;
        }
        found[foundCount] = thing;
        foundCount++;
        return true;
    }

    private int numberOf(Thing thing) {
        for (int i = 0; i < foundCount; i++) {
            if (found[i] == thing) {
                return i;
            }
        }
        return -1;
    }

    private boolean tellObject(int number, LeafList into) {
        Thing thing = found[number];
        boolean room = into.add(number, CLASS_LEAF, thing.classNumber);
        for (int field = 0; field < FIELDS && room; field++) {
            room = tellField(number, field, into);
        }
        return room;
    }

    private boolean tellField(int number, int field, LeafList into) {
        Thing thing = found[number];
        if (FORM[field] == IS_LINK) {
            Thing held = thing.held(field);
            return held == null || into.add(number, field, numberOf(held));
        }
        if (FORM[field] == IS_ROW) {
            return thing.ints == null || tellRow(number, thing.ints, into);
        }
        return thing.values[field] == 0 || into.add(number, field, thing.values[field]);
    }

    private static boolean tellRow(int number, int[] ints, LeafList into) {
        boolean room = into.add(number, ROW, ints.length);
        for (int i = 0; i < ints.length && room; i++) {
            room = into.add(number, FIRST_PLACE + i, ints[i]);
        }
        return room;
    }

    /** Makes the OBJECTS, still without what they hold: a FAILURE of any maker comes ahead of all others. */
    private int makeFromLeaves() {
        madeCount = 0;
        for (int k = 0; k < current.size && madeCount < MOST_OBJECTS; k++) {
            if (current.fields[k] == CLASS_LEAF) {
                int classNumber = (int) current.values[k];
                int told = current.toldToMaker(k);
                if (!makerTakes(classNumber, told)) {
                    return FAILS_MAKER;
                }
                made[madeCount] = new Thing(classNumber, told);
                madeCount++;
            }
        }
        return NO_FAILURE;
    }

    private int fillFromLeaves() {
        for (int k = 0; k < current.size; k++) {
            Thing thing = madeAs(current.numbers[k]);
            if (thing == null) {
                return FAILS_PLACE;
            }
            int failure = fillField(thing, current.fields[k], current.values[k]);
            if (failure != NO_FAILURE) {
                return failure;
            }
        }
        return NO_FAILURE;
    }

    /** Null, if the number is that of no OBJECT that was made. */
    private Thing madeAs(long number) {
        return number < 0 || number >= madeCount ? null : made[(int) number];
    }

    private int fillField(Thing thing, int field, long value) {
        if (isLinkField(field)) {
            return fillLink(thing, field, value);
        }
        if (field == ROW) {
            thing.ints = value >= 0 && value <= MOST_INTS ? new int[(int) value] : null;
        } else if (field >= FIRST_PLACE) {
            fillPlace(thing.ints, field - FIRST_PLACE, (int) value);
        } else if (isValueField(field) && !isFinal(field)) {
            thing.values[field] = asTold(field, value);
        }
        return NO_FAILURE;
    }

    private int fillLink(Thing thing, int field, long number) {
        Thing what = madeAs(number);
        if (what == null) {
            return FAILS_PLACE;
        }
        if (!what.isOf(wantedIn(field))) {
            return FAILS_CLASS;
        }
        thing.hold(field, what);
        return NO_FAILURE;
    }

    private static void fillPlace(int[] ints, int place, int value) {
        if (ints != null && place < ints.length) {
            ints[place] = value;
        }
    }
}
