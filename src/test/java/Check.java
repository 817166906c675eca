import java.io.IOException;
import java.nio.file.Files;
import java.nio.file.Path;

/** Counts the calls whose answer is not the one that is due, and ends the test with them. */
final class Check {
    static final int NOTHING = -11, PLACE = -12, SIZE = -13, CLASS = -14, FINAL = -17, MAKER = -18;
    static final int BASE = 0, MIDDLE = 1, TIP = 2, STRAY = 3, SIGNAL = 4, LINKED = 5;
    static final int BAD = FieldLeaves.BAD, FULL = FieldLeaves.FULL, NONE = FieldLeaves.NONE;
    static final int TERMS = 0;
    static final int[] NO_SLOTS = {-1, 12, Integer.MIN_VALUE, Integer.MAX_VALUE};

    private static final Path DOCUMENT = Path.of("../shared/DOC.md");

    private static final long MOST_MILLISECONDS = 240_000;

    private int wrong = 0;
    private String sentence = "";

    /** A class that is broken may follow a ring for ever: the test fails then, too. */
    Check() {
        Thread watch = new Thread(() -> {
            try {
                Thread.sleep(MOST_MILLISECONDS);
            } catch (InterruptedException e) {
                return;
            }
            System.out.println(sentence + "no end");
            Runtime.getRuntime().halt(1);
        });
        watch.setDaemon(true);
        watch.start();
    }

    /** The answers that follow show these words of the document, which stand in a promise or (0) ahead of all. */
    void says(int promise, String words) {
        sentence = (promise == TERMS ? "Terms" : "Promise " + promise) + ", '" + words + "': ";
        String part = part(promise);
        if (!part.isEmpty() && !part.contains(words)) {
            wrong++;
            System.out.println(sentence + "the document does not say so");
        }
    }

    void due(String call, long got, long want) {
        if (got != want) {
            wrong++;
            System.out.println(sentence + call + " answered " + got + ", due is " + want);
        }
    }

    void fault(String what) {
        wrong++;
        System.out.println(sentence + what);
    }

    void end() {
        System.out.println(wrong == 0 ? "all answers are as due" : wrong + " answers are not as due");
        if (wrong != 0) {
            System.exit(1);
        }
    }

    /** Empty, if the document is not there to be read. */
    private static String part(int promise) {
        if (!Files.exists(DOCUMENT)) {
            return "";
        }
        try {
            String[] parts = Files.readString(DOCUMENT).replaceAll("\\s+", " ").split("## Promise \\d+: ");
            return promise < parts.length ? parts[promise] : "no such promise";
        } catch (IOException e) {
            return "";
        }
    }

    /** SLOTS 0 to 4 hold an OBJECT of the CLASS of that number (told n), the others NOTHING. */
    static FieldLeaves oneOfEach(int n) {
        FieldLeaves x = new FieldLeaves();
        for (int cls = BASE; cls <= SIGNAL; cls++) {
            x.make(cls, cls, n);
        }
        return x;
    }

    /** SLOT s holds the first of a chain of BASES, linked by 8; SLOT 11 is used on the way. */
    static void chain(FieldLeaves x, int s, int size) {
        chain(x, s, size, BASE, 8);
    }

    /** SLOT s holds the first of a chain of OBJECTS of a CLASS, linked by a FIELD; SLOT 11 is used on the way. */
    static void chain(FieldLeaves x, int s, int size, int cls, int field) {
        x.make(s, cls, 0);
        for (int i = 1; i < size; i++) {
            x.make(11, cls, 0);
            x.link(11, field, s);
            x.share(11, s);
        }
        x.clear(11);
    }
}
