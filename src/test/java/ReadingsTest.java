/** What was chosen where the document's words leave room, apart from what they say plainly; Machine chooses likewise. */
public final class ReadingsTest {
    private static final Check check = new Check();

    public static void main(String[] args) {
        equalOfNothingAndNoRoom();
        numbersByAllBits();
        rowOfNoneIsARow();
        passedAtFirst();
        check.end();
    }

    /** FULL comes also where one look at NOTHING would tell that the two are not equal. */
    private static void equalOfNothingAndNoRoom() {
        check.says(24, "FULL: those of one have no room");
        FieldLeaves x = new FieldLeaves();
        Check.chain(x, 0, 25);
        check.due("25 and NOTHING", x.equal(0, 9), Check.FULL);
        check.due("NOTHING and 25", x.equal(9, 0), Check.FULL);
    }

    /** An OBJECT's number is no VALUE of a FIELD that would be given by its lowest bits. */
    private static void numbersByAllBits() {
        check.says(23, "2 a number of no OBJECT");
        FieldLeaves x = new FieldLeaves();
        x.make(0, Check.BASE, 0);
        x.link(0, 8, 0);
        x.leaves(0);
        for (long number : new long[] {1L << 32, -1L << 32, Long.MIN_VALUE}) {
            x.alter(1, number);
            check.due("back with number " + number, x.back(1), Check.PLACE);
        }
    }

    /** A row of no ints is not NOTHING. */
    private static void rowOfNoneIsARow() {
        FieldLeaves x = new FieldLeaves();
        x.make(0, Check.BASE, 0);
        x.make(1, Check.BASE, 0);
        x.row(1, 0);
        check.says(20, "LEAVES of what a SLOT holds");
        check.due("leaves", x.leaves(1), 2);
        check.due("back", x.back(2), 1);
        check.due("its length", x.length(2), 0);
        check.says(24, "Whether two SLOTS hold OBJECTS with the same LEAVES");
        check.due("equal", x.equal(0, 1), 0);
        check.says(25, "of 9 another row by its ints");
        check.due("changed", x.changed(0, 1, 0), 9);
        check.due("changed, round", x.changed(1, 0, 0), 9);
    }

    private static void passedAtFirst() {
        check.says(19, "What the latest passes() that was not BAD counted");
        FieldLeaves x = new FieldLeaves();
        check.due("passed ahead of any passes", x.passed(), 0);
        x.passes(0, 13);
        check.due("passed behind a BAD one alone", x.passed(), 0);
    }
}
