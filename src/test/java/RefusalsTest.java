import java.util.stream.IntStream;

/**
 * "Refusals, of several the first as told by each call: UNKNOWN, OUTSIDE, STATE; they change nothing":
 * each number of each call, just too small, just too large and far off.
 */
public final class RefusalsTest {
    private static final Checks CHECKS = new Checks("RefusalsTest");
    private static final int UNKNOWN = SchoolRow.UNKNOWN, OUTSIDE = SchoolRow.OUTSIDE, STATE = SchoolRow.STATE;
    private static final int NONE = SchoolRow.NONE, FULL = SchoolRow.FULL;
    private static final int LEAST = Integer.MIN_VALUE, MOST = Integer.MAX_VALUE;
    // The great ones would come back into bounds if they were shifted, multiplied or cut to a byte.
    private static final int[] FAR_OFF = {LEAST, LEAST + 1, -65536, -257, -256, -102, -101,
        255, 256, 257, 304, 65535, 65536, 65584, 1 << 29, 1 << 30, (1 << 30) + 1, MOST - 1, MOST};

    private final String text;
    private final int children;

    /** A call that is refused for a number. */
    private interface Call {
        int on(SchoolRow row, int number);
    }

    private RefusalsTest(String text) {
        this.text = text;
        this.children = text.isEmpty() ? 0 : text.length() - 7;
    }

    public static void main(String[] args) {
        for (String text : new String[] {"", "231234:h", "231234:csdgh", "231234:dhgscc"}) {
            RefusalsTest test = new RefusalsTest(text);
            test.unknownChildren();
            test.unknownSubjects();
            test.outsideWithOrWithoutSchool();
            test.refusedPages();
            if (text.isEmpty()) {
                test.stateWithoutSchool();
            } else {
                test.outsideOfChildren();
            }
        }
        noImage();
        CHECKS.end();
    }

    /** Numbers around the bounds, and far off, but for those that are within. */
    private static int[] beyond(int least, int most) {
        return IntStream.concat(IntStream.rangeClosed(-40, 132), IntStream.of(FAR_OFF))
                .filter(number -> number < least || number > most).toArray();
    }

    private int[] noChildren() {
        return beyond(0, children - 1);
    }

    private static int[] noSubjects() {
        return beyond(0, 3);
    }

    /** A row of whose every part something is told, with an image of another state, and a page. */
    private SchoolRow prepared() {
        SchoolRow row = new SchoolRow();
        if (children > 0) {
            Rows.write(row, text);
            Rows.read(row);
            row.lesson(0, false);
            row.lesson(1, true);
            row.swap(0, children - 1);
            row.ill(children - 1, true);
            row.tell(0, 1);
            row.image();
            row.lesson(2, false);
            row.summer();
            row.swap(0, children / 2);
            row.ill(0, true);
            row.tell(children - 1, 0);
        }
        Rows.write(row, "12x");
        return row;
    }

    private void refused(String what, int due, int[] numbers, Call call) {
        SchoolRow row = prepared();
        for (int number : numbers) {
            CHECKS.due(what + " with " + number + " of '" + text + "'", call.on(row, number), due);
        }
        CHECKS.due("all behind refused " + what + " of '" + text + "'",
                Rows.lastFingerprint(row), Rows.lastFingerprint(prepared()));
    }

    /** Behind an unknown child nothing else of the call is looked at. */
    private void unknownChildren() {
        int[] none = noChildren();
        refused("about(n, 0)", UNKNOWN, none, (row, n) -> row.about(n, 0));
        refused("about(n, 5)", UNKNOWN, none, (row, n) -> row.about(n, 5));
        refused("as(n, 0)", UNKNOWN, none, (row, n) -> row.as(n, 0));
        refused("as(n, 5)", UNKNOWN, none, (row, n) -> row.as(n, 5));
        refused("seat(n)", UNKNOWN, none, (row, n) -> row.seat(n));
        refused("swap(n, 0)", UNKNOWN, none, (row, n) -> row.swap(n, 0));
        refused("swap(0, n)", UNKNOWN, none, (row, n) -> row.swap(0, n));
        refused("swap(n, n)", UNKNOWN, none, (row, n) -> row.swap(n, n));
        refused("ill(n, true)", UNKNOWN, none, (row, n) -> row.ill(n, true));
        refused("ill(n, false)", UNKNOWN, none, (row, n) -> row.ill(n, false));
        refused("knows(n, 0, 0)", UNKNOWN, none, (row, n) -> row.knows(n, 0, 0));
        refused("knows(n, 0, 2)", UNKNOWN, none, (row, n) -> row.knows(n, 0, 2));
        refused("wipe(n, 0)", UNKNOWN, none, (row, n) -> row.wipe(n, 0));
        refused("asks(n, 0)", UNKNOWN, none, (row, n) -> row.asks(n, 0));
        refused("orders(n, 0, 0)", UNKNOWN, none, (row, n) -> row.orders(n, 0, 0));
        refused("orders(n, -1, 0)", UNKNOWN, none, (row, n) -> row.orders(n, -1, 0));
        refused("orders(n, 0, 2)", UNKNOWN, none, (row, n) -> row.orders(n, 0, 2));
        refused("tell(n, 0)", UNKNOWN, none, (row, n) -> row.tell(n, 0));
        refused("tell(n, 2)", UNKNOWN, none, (row, n) -> row.tell(n, 2));
    }

    /** An unknown subject goes ahead of what is told, and of there being no school. */
    private void unknownSubjects() {
        int[] none = noSubjects();
        refused("knows(0, n, 0)", UNKNOWN, none, (row, n) -> row.knows(0, n, 0));
        refused("knows(0, n, 2)", UNKNOWN, none, (row, n) -> row.knows(0, n, 2));
        refused("knows(n, n, n)", UNKNOWN, beyond(0, 5), (row, n) -> row.knows(n, n, n));
        refused("lesson(n, false)", UNKNOWN, none, (row, n) -> row.lesson(n, false));
        refused("lesson(n, true)", UNKNOWN, none, (row, n) -> row.lesson(n, true));
        refused("wipe(0, n)", UNKNOWN, none, (row, n) -> row.wipe(0, n));
        refused("wipe(n, n)", UNKNOWN, beyond(0, 5), (row, n) -> row.wipe(n, n));
        refused("asks(0, n)", UNKNOWN, none, (row, n) -> row.asks(0, n));
        refused("asks(n, n)", UNKNOWN, beyond(0, 5), (row, n) -> row.asks(n, n));
    }

    /** These are looked at ahead of there being no school. */
    private void outsideWithOrWithoutSchool() {
        int[] noOrders = IntStream.of(beyond(0, 1)).filter(n -> n < 10 || n > 15).toArray();
        refused("order(n)", OUTSIDE, noOrders, (row, n) -> row.order(n));
        refused("songs(n, 0)", OUTSIDE, beyond(0, 40), (row, n) -> row.songs(n, 0));
        refused("songs(0, n)", OUTSIDE, beyond(0, 1), (row, n) -> row.songs(0, n));
        refused("songs(40, n)", OUTSIDE, beyond(0, 1), (row, n) -> row.songs(40, n));
        refused("songs(n, n)", OUTSIDE, beyond(0, 40), (row, n) -> row.songs(n, n));
        refused("sick(n)", OUTSIDE, beyond(0, 1), (row, n) -> row.sick(n));
        refused("years(n, 0, 0)", OUTSIDE, beyond(1, 60), (row, n) -> row.years(n, 0, 0));
        refused("years(1, n, 0)", OUTSIDE, beyond(0, MOST), (row, n) -> row.years(1, n, 0));
        refused("years(60, 0, n)", OUTSIDE, beyond(0, 2), (row, n) -> row.years(60, 0, n));
        refused("years(n, n, n)", OUTSIDE, beyond(1, 60), (row, n) -> row.years(n, n, n));
        refused("count(n)", OUTSIDE, beyond(0, 11), (row, n) -> row.count(n));
        refused("letter(n)", OUTSIDE, beyond(32, 126), (row, n) -> row.letter(n));
    }

    private void outsideOfChildren() {
        int last = children - 1;
        int bits = 1 << children;
        refused("about(0, n)", OUTSIDE, beyond(0, 4), (row, n) -> row.about(0, n));
        refused("about(last, n)", OUTSIDE, beyond(0, 4), (row, n) -> row.about(last, n));
        refused("as(0, n)", OUTSIDE, beyond(0, 4), (row, n) -> row.as(0, n));
        refused("as(last, n)", OUTSIDE, beyond(0, 4), (row, n) -> row.as(last, n));
        refused("knows(0, 0, n)", OUTSIDE, beyond(0, 1), (row, n) -> row.knows(0, 0, n));
        refused("knows(last, 3, n)", OUTSIDE, beyond(0, 1), (row, n) -> row.knows(last, 3, n));
        refused("orders(0, n, 0)", OUTSIDE, beyond(0, bits - 1), (row, n) -> row.orders(0, n, 0));
        refused("orders(last, n, 1)", OUTSIDE, beyond(0, bits - 1), (row, n) -> row.orders(last, n, 1));
        refused("orders(0, 0, n)", OUTSIDE, beyond(0, 1), (row, n) -> row.orders(0, 0, n));
        refused("tell(0, n)", OUTSIDE, beyond(NONE, 1), (row, n) -> row.tell(0, n));
        refused("tell(last, n)", OUTSIDE, beyond(NONE, 1), (row, n) -> row.tell(last, n));
    }

    /** A page that is no school is not read; a full one takes no letter, and OUTSIDE goes ahead of that. */
    private void refusedPages() {
        refused("school()", STATE, new int[] {0, 1}, (row, n) -> row.school());
        String more = "c".repeat(11);
        SchoolRow row = prepared();
        Rows.write(row, more);
        for (int code : beyond(32, 126)) {
            CHECKS.due("letter(" + code + ") on a full page", row.letter(code), OUTSIDE);
        }
        for (int code = 32; code <= 126; code++) {
            CHECKS.due("letter(" + code + ") on a full page", row.letter(code), FULL);
        }
        SchoolRow other = prepared();
        Rows.write(other, more);
        CHECKS.due("all behind letters on a full page of '" + text + "'",
                Rows.lastFingerprint(row), Rows.lastFingerprint(other));
    }

    private void stateWithoutSchool() {
        int[] subjects = {0, 1, 2, 3};
        refused("lesson(n, false)", STATE, subjects, (row, n) -> row.lesson(n, false));
        refused("lesson(n, true)", STATE, subjects, (row, n) -> row.lesson(n, true));
        refused("summer()", STATE, new int[] {0}, (row, n) -> row.summer());
        refused("order(n)", STATE, new int[] {0, 1, 10, 11, 12, 13, 14, 15}, (row, n) -> row.order(n));
        refused("songs(n, 0)", STATE, new int[] {0, 1, 39, 40}, (row, n) -> row.songs(n, 0));
        refused("songs(n, 1)", STATE, new int[] {0, 1, 39, 40}, (row, n) -> row.songs(n, 1));
        refused("sick(n)", STATE, new int[] {0, 1}, (row, n) -> row.sick(n));
        refused("years(n, 0, 0)", STATE, new int[] {1, 60}, (row, n) -> row.years(n, 0, 0));
        refused("years(1, n, 1)", STATE, new int[] {0, MOST}, (row, n) -> row.years(1, n, 1));
        refused("years(1, 0, n)", STATE, new int[] {0, 1, 2}, (row, n) -> row.years(1, 0, n));
        refused("image()", STATE, new int[] {0}, (row, n) -> row.image());
        refused("restore()", STATE, new int[] {0}, (row, n) -> row.restore());
    }

    /** A refused image() keeps nothing, a refused restore() brings nothing back. */
    private static void noImage() {
        SchoolRow row = new SchoolRow();
        CHECKS.due("image() without a school", row.image(), STATE);
        Rows.write(row, "231234:cs");
        Rows.read(row);
        row.lesson(0, false);
        row.swap(0, 1);
        row.ill(0, true);
        row.tell(1, 1);
        long before = Rows.fingerprint(row);
        CHECKS.due("restore() of an image without a school", row.restore(), STATE);
        CHECKS.due("all behind it", Rows.fingerprint(row), before);
    }
}
