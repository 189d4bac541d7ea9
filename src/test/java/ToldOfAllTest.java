/** Promises 22 to 25: what is told of all. */
public final class ToldOfAllTest {
    private static final Checks CHECKS = new Checks("ToldOfAllTest");

    private ToldOfAllTest() {
    }

    public static void main(String[] args) {
        anImageIsKept();
        theLatestImageIsKept();
        anImageGoesWithItsSchool();
        counts();
        countsRefused();
        digestOfANewObject();
        digests();
        CHECKS.end();
    }

    private static void due(String what, long got, long want) {
        CHECKS.due(what, got, want);
    }

    private static void anImageIsKept() {
        SchoolRow row = Rows.of("231111:csdg");
        row.lesson(1, false);
        row.swap(0, 3);
        row.ill(2, true);
        row.tell(1, 0);
        long before = Rows.fingerprint(row);
        due("image()", row.image(), 4);
        due("an image changes nothing", Rows.fingerprint(row), before);
        spoil(row);
        due("restore()", row.restore(), 4);
        due("all is as it was", Rows.fingerprint(row), before);
        spoil(row);
        due("restore() again", row.restore(), 4);
        due("all is as it was again", Rows.fingerprint(row), before);
        Rows.write(row, "12");
        row.restore();
        due("no image keeps the page", row.count(10), 2);
    }

    private static void spoil(SchoolRow row) {
        row.summer();
        row.lesson(1, true);
        row.lesson(2, false);
        row.wipe(1, 1);
        row.swap(1, 2);
        row.ill(2, false);
        row.ill(0, true);
        row.tell(1, SchoolRow.NONE);
        row.tell(3, 1);
    }

    private static void theLatestImageIsKept() {
        SchoolRow row = Rows.of("231111:cs");
        due("restore() of none", row.restore(), SchoolRow.STATE);
        row.image();
        row.swap(0, 1);
        row.image();
        row.swap(0, 1);
        row.restore();
        due("who sits in front", row.seat(0), 1);
    }

    private static void anImageGoesWithItsSchool() {
        SchoolRow row = Rows.of("231111:cs");
        row.lesson(0, false);
        row.image();
        Rows.write(row, "231111");
        due("school() of none", row.school(), SchoolRow.STATE);
        due("restore() behind a school that was none", row.restore(), 2);
        Rows.write(row, ":cs");
        due("school() of the same text", row.school(), 2);
        long before = Rows.fingerprint(row);
        due("restore() behind another school", row.restore(), SchoolRow.STATE);
        due("nothing has changed", Rows.fingerprint(row), before);
        due("image() of it", row.image(), 2);
        due("restore() of it", row.restore(), 2);
    }

    private static void counts() {
        SchoolRow row = Rows.of("051234:ccgs");
        row.lesson(0, false);
        row.lesson(2, true);
        row.ill(0, true);
        row.ill(3, true);
        Rows.write(row, "xyz");
        long[] want = {0, 5, 1, 2, 3, 4, 4, 2, 800, 1 + 2 + 3, 3, 1};
        for (int what = 0; what <= 11; what++) {
            due("count(" + what + ")", row.count(what), want[what]);
        }
        row.wipe(0, 0);
        row.swap(0, 1);
        row.ill(0, false);
        row.lesson(0, false);
        due("mistakes with those that 0 has of 0", row.count(9), 2 + 1 + 2 + 3);
        row.blank();
        Rows.write(row, "999999:h");
        row.school();
        row.school();
        long[] then = {9, 9, 9, 9, 9, 9, 1, 0, 0, 0, 0, 2};
        for (int what = 0; what <= 11; what++) {
            due("count(" + what + ") then", row.count(what), then[what]);
        }
    }

    private static void countsRefused() {
        for (int what : new int[] {-1, 12, Integer.MIN_VALUE, Integer.MAX_VALUE}) {
            due("count(" + what + ")", new SchoolRow().count(what), SchoolRow.OUTSIDE);
            due("count(" + what + ") of a school", Rows.of("111111:c").count(what), SchoolRow.OUTSIDE);
        }
    }

    private static void digestOfANewObject() {
        long h = 773;
        for (int what = 0; what <= 11; what++) {
            h *= 31;
        }
        due("digest() of a new object", new SchoolRow().digest(), h);
        // Two letters, then twelve counts, of which but the one of letters is above 0.
        long two = (773L * 31 + 'a') * 31 + 'b';
        for (int what = 0; what <= 11; what++) {
            two = two * 31 + (what == 10 ? 2 : 0);
        }
        due("digest() of a page", Rows.withPage("ab").digest(), two);
    }

    private static void digests() {
        SchoolRow row = Rows.of("235561:csdgh");
        due("digest() of a school", row.digest(), digestByCalls(row, ""));
        row.lesson(1, false);
        row.swap(0, 3);
        row.ill(2, true);
        row.lesson(3, true);
        row.lesson(2, false);
        row.tell(1, 0);
        row.tell(4, 1);
        Rows.write(row, "19:x");
        long before = row.digest();
        due("digest() of more", before, digestByCalls(row, "19:x"));
        due("digest() again", row.digest(), before);
        row.swap(0, 1);
        CHECKS.holds("another digest() of another row", row.digest() != before);
    }

    private static long digestByCalls(SchoolRow row, String page) {
        long h = 773;
        for (int child = 0; child < row.count(6); child++) {
            for (int what = 0; what <= 4; what++) {
                h = 31 * h + row.about(child, what);
            }
            for (int subject = 0; subject < 4; subject++) {
                h = 31 * h + row.knows(child, subject, 0);
                h = 31 * h + row.knows(child, subject, 1);
                h = 31 * h + row.asks(child, subject);
            }
        }
        for (int what : new int[] {0, 1, 10, 11, 12, 13, 14, 15}) {
            h = 31 * h + row.order(what);
        }
        h = 31 * h + row.songs(10, 0);
        h = 31 * h + row.songs(10, 1);
        h = 31 * h + row.sick(0);
        h = 31 * h + row.sick(1);
        for (int place = 0; place < page.length(); place++) {
            h = 31 * h + page.charAt(place);
        }
        for (int what = 0; what <= 11; what++) {
            h = 31 * h + row.count(what);
        }
        return h;
    }
}
