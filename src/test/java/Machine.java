import java.util.ArrayList;
import java.util.List;

/**
 * The document's classes as real ones, with real hidden fields, floats and exceptions of the machine:
 * a second way to the answers, to set beside those of FieldLeaves.
 */
final class Machine {
    private interface Linked {
        Linked next();

        int kind(int step);
    }

    private static class Base implements Linked {
        boolean flag;
        byte tiny;
        short small;
        char sign;
        int count;
        long total;
        float ratio;
        double exact;
        Base link;
        int[] row;

        int name() {
            return 1 + count;
        }

        int own() {
            return 1;
        }

        @Override
        public Linked next() {
            return link;
        }

        @Override
        public int kind(int step) {
            return own() + (link == null || step == 8 ? 0 : 10 * link.kind(step + 1));
        }
    }

    private static class Middle extends Base {
        int count;
        Middle link;

        @Override
        int name() {
            return 10 * super.name() + count;
        }

        @Override
        int own() {
            return 2;
        }

        @Override
        public Linked next() {
            return link;
        }
    }

    private static final class Tip extends Middle {
        long count;
        final int mark;

        Tip(int mark) {
            if (mark < 0 || mark > 1000) {
                throw new IllegalArgumentException();
            }
            this.mark = mark;
        }

        @Override
        int name() {
            return super.name() + mark;
        }

        @Override
        int own() {
            return 3;
        }
    }

    private static final class Stray implements Linked {
        double weight;
        Linked back;

        @Override
        public Linked next() {
            return back;
        }

        @Override
        public int kind(int step) {
            return 7;
        }
    }

    private static final class Signal extends RuntimeException {
        private static final long serialVersionUID = 1L;
        final int code;

        Signal(int code) {
            super(null, null, false, false);
            this.code = code;
        }
    }

    private static final class Bad extends RuntimeException {
        private static final long serialVersionUID = 1L;
        final int answer;

        Bad(int answer) {
            super(null, null, false, false);
            this.answer = answer;
        }
    }

    private final Object[] slots = new Object[12];
    private List<long[]> leaves = new ArrayList<>();
    private int passed = 0;

    /** Makes a call by its number, and turns what is thrown into its answer. */
    long answer(int method, int a, int b, int c, long v) {
        try {
            return method < 15 ? plain(method, a, b, c, v) : other(method, a, b, c, v);
        } catch (Bad e) {
            return e.answer;
        } catch (NullPointerException e) {
            return -11;
        } catch (IndexOutOfBoundsException e) {
            return -12;
        } catch (NegativeArraySizeException e) {
            return -13;
        } catch (ClassCastException e) {
            return -14;
        } catch (IllegalStateException e) {
            return -17;
        } catch (IllegalArgumentException e) {
            return -18;
        }
    }

    private long plain(int method, int a, int b, int c, long v) {
        slot(a);
        switch (method) {
            case 0:
                within(b, 0, 4);
                slots[a] = made(b, c);
                return 1;
            case 1:
                boolean held = slots[a] != null;
                slots[a] = null;
                return held ? 1 : 0;
            case 2:
                slot(b);
                slots[b] = slots[a];
                return 1;
            case 3:
                slot(b);
                return slots[a] == slots[b] ? 1 : 0;
            case 4:
                return slots[a] == null ? -4 : classOf(slots[a]);
            case 5:
                within(b, 0, 5);
                return is(slots[a], b) ? 1 : 0;
            case 6:
                valueField(b);
                return read(slots[a], b);
            case 7:
                valueField(b);
                write(slots[a], b, v);
                return 1;
            case 8:
                linkField(b);
                slot(c);
                hold(slots[a], b, slots[c]);
                return 1;
            case 9:
                linkField(b);
                slot(c);
                slots[c] = held(slots[a], b);
                return 1;
            case 10:
                within(b, Integer.MIN_VALUE, 20);
                Base based = (Base) slots[a];
                int[] row = b == -4 ? null : new int[b];
                based.row = row;
                return b;
            case 11:
                int[] ints = ((Base) slots[a]).row;
                int was = ints[b];
                ints[b] = c;
                return was;
            case 12:
                return ((Base) slots[a]).row.length;
            case 13:
                within(b, 0, 2);
                return b == 0 ? ((Base) slots[a]).count : b == 1 ? ((Middle) slots[a]).count : ((Tip) slots[a]).count;
            default:
                within(b, 0, 4);
                return called(slots[a], b);
        }
    }

    private long other(int method, int a, int b, int c, long v) {
        switch (method) {
            case 15:
                slot(a);
                try {
                    throw (Signal) slots[a];
                } catch (Signal e) {
                    return e.code;
                }
            case 16:
                slot(a);
                within(b, 1, 12);
                passed = 0;
                try {
                    pass(slots[a], b);
                } catch (Signal e) {
                    return e.code;
                }
                throw new AssertionError();
            case 17:
                return passed;
            case 18:
                slot(a);
                leaves = told(slots[a]);
                return leaves.size();
            case 19:
                within(a, 0, leaves.size() - 1);
                within(b, 0, 2);
                return leaves.get(a)[b];
            case 20:
                within(a, 0, leaves.size() - 1);
                long[] leaf = leaves.get(a);
                if (leaf[1] == -1 || leaf[1] == 9) {
                    throw new Bad(-1);
                }
                leaf[2] = v;
                return 1;
            case 21:
                slot(a);
                return back(a);
            case 22:
                slot(a);
                slot(b);
                return equal(slots[a], slots[b]) ? 1 : 0;
            default:
                slot(a);
                slot(b);
                within(c, 0, Integer.MAX_VALUE);
                return changed(slots[a], slots[b], c);
        }
    }

    private static void slot(int s) {
        within(s, 0, 11);
    }

    private static void within(int n, int low, int high) {
        if (n < low || n > high) {
            throw new Bad(-1);
        }
    }

    private static boolean isLink(int field) {
        return field == 8 || field == 11 || field == 15;
    }

    private static void linkField(int field) {
        if (!isLink(field)) {
            throw new Bad(-1);
        }
    }

    private static void valueField(int field) {
        within(field, 0, 16);
        if (isLink(field) || field == 9) {
            throw new Bad(-1);
        }
    }

    private static Object made(int cls, int n) {
        switch (cls) {
            case 0:
                return new Base();
            case 1:
                return new Middle();
            case 2:
                return new Tip(n);
            case 3:
                return new Stray();
            default:
                return new Signal(n);
        }
    }

    private static int classOf(Object o) {
        return o instanceof Tip ? 2 : o instanceof Middle ? 1 : o instanceof Base ? 0 : o instanceof Stray ? 3 : 4;
    }

    private static boolean is(Object o, int cls) {
        switch (cls) {
            case 0:
                return o instanceof Base;
            case 1:
                return o instanceof Middle;
            case 2:
                return o instanceof Tip;
            case 3:
                return o instanceof Stray;
            case 4:
                return o instanceof Signal;
            default:
                return o instanceof Linked;
        }
    }

    private static long read(Object o, int field) {
        switch (field) {
            case 0:
                return ((Base) o).flag ? 1 : 0;
            case 1:
                return ((Base) o).tiny;
            case 2:
                return ((Base) o).small;
            case 3:
                return ((Base) o).sign;
            case 4:
                return ((Base) o).count;
            case 5:
                return ((Base) o).total;
            case 6:
                return Float.floatToIntBits(((Base) o).ratio);
            case 7:
                return Double.doubleToLongBits(((Base) o).exact);
            case 10:
                return ((Middle) o).count;
            case 12:
                return ((Tip) o).count;
            case 13:
                return ((Tip) o).mark;
            case 14:
                return Double.doubleToLongBits(((Stray) o).weight);
            default:
                return ((Signal) o).code;
        }
    }

    private static void write(Object o, int field, long v) {
        if (field == 13 || field == 16) {
            read(o, field);
            throw new IllegalStateException("final");
        }
        switch (field) {
            case 0:
                ((Base) o).flag = (v & 1) != 0;
                break;
            case 1:
                ((Base) o).tiny = (byte) v;
                break;
            case 2:
                ((Base) o).small = (short) v;
                break;
            case 3:
                ((Base) o).sign = (char) v;
                break;
            case 4:
                ((Base) o).count = (int) v;
                break;
            case 5:
                ((Base) o).total = v;
                break;
            case 6:
                ((Base) o).ratio = Float.intBitsToFloat((int) v);
                break;
            case 7:
                ((Base) o).exact = Double.longBitsToDouble(v);
                break;
            case 10:
                ((Middle) o).count = (int) v;
                break;
            case 12:
                ((Tip) o).count = v;
                break;
            default:
                ((Stray) o).weight = Double.longBitsToDouble(v);
                break;
        }
    }

    private static Object held(Object o, int field) {
        return field == 8 ? ((Base) o).link : field == 11 ? ((Middle) o).link : ((Stray) o).back;
    }

    private static void hold(Object o, int field, Object what) {
        if (field == 8) {
            ((Base) o).link = (Base) what;
        } else if (field == 11) {
            ((Middle) o).link = (Middle) what;
        } else {
            ((Stray) o).back = (Linked) what;
        }
    }

    private static int called(Object o, int what) {
        switch (what) {
            case 0:
                return ((Base) o).name();
            case 1:
                return ((Base) o).tiny + ((Base) o).small;
            case 2:
                return depth(((Linked) o).next(), 0);
            case 3:
                return ((Linked) o).kind(1);
            default:
                return ((Base) o).link.name();
        }
    }

    private static int depth(Linked next, int before) {
        return next == null || before == 50 ? before : depth(next.next(), before + 1);
    }

    private void pass(Object signal, int n) {
        try {
            if (n == 1) {
                throw (Signal) signal;
            }
            pass(signal, n - 1);
        } finally {
            passed++;
        }
    }

    private static boolean has(Object o, int field) {
        int[] owner = {0, 0, 0, 0, 0, 0, 0, 0, 0, 0, 1, 1, 2, 2, 3, 3, 4};
        return is(o, owner[field]);
    }

    private static int place(List<Object> list, Object o) {
        for (int i = 0; i < list.size(); i++) {
            if (list.get(i) == o) {
                return i;
            }
        }
        return -1;
    }

    private static List<long[]> told(Object first) {
        if (first == null) {
            throw new NullPointerException();
        }
        List<Object> found = new ArrayList<>();
        found.add(first);
        for (int i = 0; i < found.size(); i++) {
            for (int field : new int[] {8, 11, 15}) {
                Object held = has(found.get(i), field) ? held(found.get(i), field) : null;
                if (held != null && place(found, held) < 0) {
                    found.add(held);
                }
            }
        }
        List<long[]> told = new ArrayList<>();
        for (int i = 0; i < found.size(); i++) {
            told.add(new long[] {i, -1, classOf(found.get(i))});
            for (int field = 0; field <= 16; field++) {
                if (has(found.get(i), field)) {
                    tellField(found, i, field, told);
                }
            }
        }
        if (found.size() > 24 || told.size() > 300) {
            throw new Bad(-3);
        }
        return told;
    }

    private static void tellField(List<Object> found, int i, int field, List<long[]> told) {
        Object o = found.get(i);
        if (isLink(field)) {
            if (held(o, field) != null) {
                told.add(new long[] {i, field, place(found, held(o, field))});
            }
        } else if (field == 9) {
            int[] row = ((Base) o).row;
            if (row != null) {
                told.add(new long[] {i, 9, row.length});
                for (int k = 0; k < row.length; k++) {
                    told.add(new long[] {i, 100 + k, row[k]});
                }
            }
        } else if (read(o, field) != 0) {
            told.add(new long[] {i, field, read(o, field)});
        }
    }

    private int back(int s) {
        if (leaves.isEmpty()) {
            throw new Bad(-3);
        }
        List<Object> all = new ArrayList<>();
        for (long[] leaf : leaves) {
            if (leaf[1] == -1) {
                int n = 0;
                for (long[] each : leaves) {
                    if (each[0] == leaf[0] && (each[1] == 13 || each[1] == 16)) {
                        n = (int) each[2];
                    }
                }
                all.add(made((int) leaf[2], n));
            }
        }
        for (long[] leaf : leaves) {
            Object o = all.get((int) leaf[0]);
            int field = (int) leaf[1];
            if (field >= 100) {
                ((Base) o).row[field - 100] = (int) leaf[2];
            } else if (field == 9) {
                ((Base) o).row = new int[(int) leaf[2]];
            } else if (isLink(field)) {
                if (leaf[2] != (int) leaf[2]) {
                    throw new IndexOutOfBoundsException();
                }
                hold(o, field, all.get((int) leaf[2]));
            } else if (field >= 0 && field != 13 && field != 16) {
                write(o, field, leaf[2]);
            }
        }
        slots[s] = all.get(0);
        return all.size();
    }

    private static boolean equal(Object one, Object other) {
        List<long[]> a = one == null ? new ArrayList<>() : told(one);
        List<long[]> b = other == null ? new ArrayList<>() : told(other);
        boolean equal = a.size() == b.size();
        for (int k = 0; equal && k < a.size(); k++) {
            equal = java.util.Arrays.equals(a.get(k), b.get(k));
        }
        return equal;
    }

    private static int changed(Object one, Object other, int k) {
        if (one.getClass() != other.getClass()) {
            throw new ClassCastException();
        }
        List<Integer> changed = new ArrayList<>();
        for (int field = 0; field <= 16; field++) {
            if (has(one, field) && differ(one, other, field)) {
                changed.add(field);
            }
        }
        return k < changed.size() ? changed.get(k) : -4;
    }

    private static boolean differ(Object one, Object other, int field) {
        if (isLink(field)) {
            return held(one, field) != held(other, field);
        }
        if (field == 9) {
            return !java.util.Arrays.equals(((Base) one).row, ((Base) other).row);
        }
        return read(one, field) != read(other, field);
    }
}
