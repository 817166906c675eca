import java.util.ArrayList;
import java.util.List;
import java.util.function.Consumer;
import java.util.function.ToLongFunction;

/** Shows that a call changes nothing: an object that had it tells all that its twin tells, which never had it. */
final class Twins {
    /** A call with one of its SLOTS left open. */
    interface SlotCall {
        long on(FieldLeaves x, int s);
    }

    private static final int[] VALUE_FIELDS = {0, 1, 2, 3, 4, 5, 6, 7, 10, 12, 13, 14, 16};
    private static final int[] LINK_FIELDS = {8, 11, 15};
    private static final int SLOTS = 12, HELD = 6, VIEWS = 4;

    private final Check check;
    private final Consumer<FieldLeaves> past;

    Twins(Check check) {
        this(check, Twins::allKinds);
    }

    Twins(Check check, Consumer<FieldLeaves> past) {
        this.check = check;
        this.past = past;
    }

    /**
     * SLOTS 0 to 4 hold an OBJECT of the CLASS of that number, 5 what 2 holds, the others NOTHING; all FIELDS
     * are told, the LEAVES are those of 3 with the TIP's mark altered, and 5 calls have passed.
     */
    static void allKinds(FieldLeaves x) {
        for (int cls = Check.BASE; cls <= Check.SIGNAL; cls++) {
            x.make(cls, cls, 9);
        }
        x.share(2, 5);
        for (int s = Check.BASE; s <= Check.TIP; s++) {
            for (int field = 0; field <= 7; field++) {
                x.set(s, field, 8 * s + field + 1);
            }
            x.row(s, s + 2);
            x.put(s, s, 7);
        }
        x.set(1, 10, 41);
        x.set(2, 10, 42);
        x.set(2, 12, 43);
        x.set(3, 14, 44);
        x.link(0, 8, 1);
        x.link(1, 8, 0);
        x.link(1, 11, 2);
        x.link(2, 8, 2);
        x.link(2, 11, 1);
        x.link(3, 15, 2);
        x.passes(4, 5);
        x.leaves(3);
        x.alter(21, 8);
    }

    /** A call answers what is due, and changes nothing. */
    void same(String name, long due, ToLongFunction<FieldLeaves> call) {
        for (int view = 0; view < VIEWS; view++) {
            FieldLeaves called = new FieldLeaves();
            FieldLeaves twin = new FieldLeaves();
            past.accept(called);
            past.accept(twin);
            check.due(name, call.applyAsLong(called), due);
            compare(name, seen(called, view), seen(twin, view));
        }
    }

    /** A call is BAD for the SLOTS that there are not, changes nothing then, and is not BAD for the first and last. */
    void slots(String name, SlotCall call) {
        for (int s : Check.NO_SLOTS) {
            same(name + " in slot " + s, Check.BAD, x -> call.on(x, s));
        }
        for (int s : new int[] {0, 11}) {
            FieldLeaves x = new FieldLeaves();
            past.accept(x);
            if (call.on(x, s) == Check.BAD) {
                check.fault(name + " in slot " + s + " is BAD");
            }
        }
    }

    private void compare(String name, List<String> called, List<String> twin) {
        for (int i = 0; i < twin.size(); i++) {
            if (!called.get(i).equals(twin.get(i))) {
                check.fault(name + " changed something: " + called.get(i) + ", without it " + twin.get(i));
                return;
            }
        }
    }

    /** Each view is taken of objects of their own, so that none is used for more calls than are promised. */
    private static List<String> seen(FieldLeaves x, int view) {
        List<String> seen = new ArrayList<>();
        switch (view) {
            case 0:
                seeLeaves(x, seen);
                break;
            case 1:
                seeSlots(x, seen);
                break;
            case 2:
                seeValues(x, seen);
                break;
            default:
                seeLinks(x, seen);
                break;
        }
        return seen;
    }

    private static void seeLeaves(FieldLeaves x, List<String> seen) {
        seen.add("passed " + x.passed());
        for (int k = 0; k < 60; k++) {
            for (int what = 0; what < 3; what++) {
                seen.add("leaf " + k + " " + what + ": " + x.leaf(k, what));
            }
        }
        seen.add("leaf 299: " + x.leaf(299, 1));
        seen.add("back " + x.back(11));
        seen.add("leaves of what came back: " + x.leaves(11));
    }

    private static void seeSlots(FieldLeaves x, List<String> seen) {
        for (int s = 0; s < SLOTS; s++) {
            seen.add("cls " + s + ": " + x.cls(s));
            for (int t = 0; t < s; t++) {
                seen.add("same " + s + " " + t + ": " + x.same(s, t));
            }
        }
    }

    private static void seeValues(FieldLeaves x, List<String> seen) {
        for (int s = 0; s < HELD; s++) {
            for (int field : VALUE_FIELDS) {
                seen.add("get " + s + " " + field + ": " + x.get(s, field));
            }
            seen.add("length " + s + ": " + x.length(s));
            for (int i = 0; i < 5; i++) {
                seen.add("put " + s + " " + i + ": " + x.put(s, i, 0));
            }
        }
    }

    private static void seeLinks(FieldLeaves x, List<String> seen) {
        for (int s = 0; s < HELD; s++) {
            for (int field : LINK_FIELDS) {
                seen.add("follow " + s + " " + field + ": " + x.follow(s, field, 11));
                for (int t = 0; t < HELD; t++) {
                    seen.add("it is that of " + t + ": " + x.same(11, t));
                }
            }
            seen.add("leaves of " + s + ": " + x.leaves(s));
        }
    }
}
