import java.math.BigInteger;
import java.util.ArrayList;
import java.util.List;

/** Promises 22 to 25, and how long an object is used: each sentence about all that names a bound. */
public final class ToldOfAllBoundsTest {
    private static final Checks CHECKS = new Checks("ToldOfAllBoundsTest");
    private static final BigInteger WRAP = BigInteger.TWO.pow(64);

    private ToldOfAllBoundsTest() {
    }

    public static void main(String[] args) {
        imagesOfOneToSix();
        noImageWasKept();
        anotherSchoolSince();
        noOtherSchoolSince();
        theLatestImage();
        imagesKeepSeats();
        imagesKeepSlates();
        imagesKeepWhoIsIll();
        imagesKeepWhatIsTold();
        imagesKeepNothingElse();
        anImageStaysAsItWas();
        countsWithoutSchool();
        countsOfTheLeastSchool();
        countsOfTheGreatestSchool();
        countsOfMistakes();
        countOfSchools();
        digestWithoutSchool();
        digestWithoutSchoolOfAPage();
        digestOfOne();
        digestOfSixWithAFullPage();
        digestOfSongsFor10();
        digestByTheOrderOfLetters();
        aDigestChangesNothing();
        calls512();
        dearCalls512();
        CHECKS.end();
    }

    private static void due(String what, long got, long want) {
        CHECKS.due(what, got, want);
    }

    /** "An IMAGE is kept [..]: how many CHILDREN", and so for restore(). */
    private static void imagesOfOneToSix() {
        for (int children = 1; children <= 6; children++) {
            SchoolRow row = Rows.of("001111:" + "c".repeat(children));
            due("image() of " + children, row.image(), children);
            due("restore() of " + children, row.restore(), children);
        }
    }

    /** "STATE: none was kept". */
    private static void noImageWasKept() {
        SchoolRow row = new SchoolRow();
        due("image() without a school", row.image(), SchoolRow.STATE);
        due("restore() without a school", row.restore(), SchoolRow.STATE);
        Rows.write(row, "001111:cc");
        Rows.read(row);
        row.lesson(0, false);
        due("restore() of none", row.restore(), SchoolRow.STATE);
        due("parts still", row.count(8), 200);
    }

    /** "or there is another SCHOOL since": of the same text, of fewer, of more. */
    private static void anotherSchoolSince() {
        for (String text : new String[] {"001111:cc", "001111:c", "001111:cccccc"}) {
            SchoolRow row = Rows.of("001111:cc");
            row.image();
            Rows.write(row, text);
            Rows.read(row);
            row.lesson(0, false);
            long before = Rows.fingerprint(row);
            due("restore() behind " + text, row.restore(), SchoolRow.STATE);
            due("nothing has changed", Rows.fingerprint(row), before);
            due("image() of " + text, row.image(), text.length() - 7);
            due("restore() of " + text, row.restore(), text.length() - 7);
            due("parts then", row.count(8), 100 * (text.length() - 7));
        }
    }

    /** "another SCHOOL since": a text that is none, or stands on THE PAGE alone, is not one. */
    private static void noOtherSchoolSince() {
        SchoolRow row = Rows.of("001111:cc");
        row.image();
        Rows.write(row, "001111:");
        due("school() of none", row.school(), SchoolRow.STATE);
        due("restore() behind it", row.restore(), 2);
        Rows.write(row, "c");
        due("restore() ahead of school()", row.restore(), 2);
        due("school() then", row.school(), 1);
        due("restore() behind school()", row.restore(), SchoolRow.STATE);
    }

    /** "(one; the latest)". */
    private static void theLatestImage() {
        SchoolRow row = Rows.of("001111:cc");
        for (int time = 0; time < 5; time++) {
            row.lesson(time % 4, false);
            row.image();
        }
        row.wipe(0, 0);
        row.restore();
        due("parts of the latest", row.count(8), 800);
        row.restore();
        due("the latest again, none before it", row.count(8), 800);
    }

    /** "An IMAGE keeps SEATS". */
    private static void imagesKeepSeats() {
        SchoolRow row = Rows.of("001111:cccccc");
        row.swap(0, 5);
        row.image();
        row.swap(0, 3);
        row.swap(1, 2);
        row.restore();
        int[] want = {5, 1, 2, 3, 4, 0};
        for (int seat = 0; seat < 6; seat++) {
            due("who sits on " + seat, row.seat(seat), want[seat]);
        }
    }

    /** "An IMAGE keeps [..] PARTS, MISTAKES": of the last child and SUBJECT, too. */
    private static void imagesKeepSlates() {
        SchoolRow row = Rows.of("001111:cccccc");
        for (int subject = 0; subject < 4; subject++) {
            row.lesson(subject, false);
        }
        row.image();
        for (int child = 0; child < 6; child++) {
            for (int subject = 0; subject < 4; subject++) {
                row.wipe(child, subject);
            }
        }
        row.restore();
        for (int child = 0; child < 6; child++) {
            for (int subject = 0; subject < 4; subject++) {
                due("parts of " + child + " in " + subject, row.knows(child, subject, 0), 100);
                due("mistakes of " + child + " in " + subject, row.knows(child, subject, 1), (1 << child) - 1);
            }
        }
    }

    /** "An IMAGE keeps [..] who is ILL". */
    private static void imagesKeepWhoIsIll() {
        SchoolRow row = Rows.of("001111:cccccc");
        row.ill(0, true);
        row.ill(5, true);
        row.image();
        for (int child = 0; child < 6; child++) {
            row.ill(child, child != 0 && child != 5);
        }
        row.restore();
        for (int child = 0; child < 6; child++) {
            due("ill " + child, row.about(child, 2), child == 0 || child == 5 ? 1 : 0);
        }
    }

    /** "An IMAGE keeps [..] what is told for SICK". */
    private static void imagesKeepWhatIsTold() {
        SchoolRow row = Rows.of("001111:cccccc");
        row.tell(0, 0);
        row.tell(5, 1);
        row.image();
        for (int child = 0; child < 6; child++) {
            row.tell(child, child == 0 ? SchoolRow.NONE : 0);
        }
        row.restore();
        for (int child = 0; child < 6; child++) {
            due("told of " + child, row.about(child, 4), child == 0 ? 0 : child == 5 ? 1 : SchoolRow.NONE);
        }
    }

    /** THE PAGE is none of what "an IMAGE keeps". */
    private static void imagesKeepNothingElse() {
        SchoolRow row = Rows.withPage("001111:cc");
        Rows.read(row);
        Rows.write(row, "12");
        row.image();
        Rows.write(row, "3");
        row.restore();
        due("letters written since", row.count(10), 3);
        row.blank();
        row.restore();
        due("a page blank since", row.count(10), 0);
        due("schools read", row.count(11), 1);
    }

    /** "It goes on from the IMAGE": what comes then does not change the image. */
    private static void anImageStaysAsItWas() {
        SchoolRow row = Rows.of("551111:csdghc");
        row.lesson(0, false);
        row.image();
        long before = Rows.fingerprint(row);
        for (int time = 0; time < 3; time++) {
            row.summer();
            row.swap(0, time + 1);
            row.ill(time, true);
            row.tell(time, 0);
            row.lesson(time, true);
            due("restore() " + time, row.restore(), 6);
            due("as it was " + time, Rows.fingerprint(row), before);
        }
    }

    private static void counts(SchoolRow row, int... want) {
        for (int what = 0; what < want.length; what++) {
            due("count(" + what + ")", row.count(what), want[what]);
        }
    }

    /** "(without a SCHOOL all 0)": also where a text of one stands on THE PAGE. */
    private static void countsWithoutSchool() {
        counts(new SchoolRow(), 0, 0, 0, 0, 0, 0, 0, 0, 0, 0, 0, 0);
        counts(Rows.withPage("987654:cccccc"), 0, 0, 0, 0, 0, 0, 0, 0, 0, 0, 13, 0);
    }

    private static void countsOfTheLeastSchool() {
        counts(Rows.of("001111:c"), 0, 0, 1, 1, 1, 1, 1, 0, 0, 0, 0, 1);
    }

    private static void countsOfTheGreatestSchool() {
        SchoolRow row = Rows.of("999999:hhhhhh");
        for (int subject = 0; subject < 4; subject++) {
            row.lesson(subject, false);
        }
        for (int child = 0; child < 6; child++) {
            row.ill(child, true);
        }
        Rows.write(row, "~~~~~~~~~~~~~~");
        counts(row, 9, 9, 9, 9, 9, 9, 6, 6, 2400, 4 * 15, 14, 1);
    }

    /** "MISTAKES of all (bits) together": each as often as it is had, the greatest bit as the least. */
    private static void countsOfMistakes() {
        SchoolRow row = Rows.of("001111:cccccd");
        row.lesson(0, false);
        due("mistakes of all", row.count(9), 1 + 2 + 3 + 4 + 1);
        row.swap(5, 0);
        for (int child = 0; child < 5; child++) {
            row.wipe(child, 0);
        }
        row.wipe(5, 0);
        row.lesson(0, false);
        due("child 1 by 5 alone", row.knows(1, 0, 1), 32);
        due("mistakes of all by 5", row.count(9), 1 + 2 + 3 + 4 + 5);
    }

    /** "11 how often a SCHOOL was read": texts that are none are not counted. */
    private static void countOfSchools() {
        SchoolRow row = new SchoolRow();
        for (int time = 1; time <= 10; time++) {
            row.school();
            Rows.write(row, "001111:c");
            due("schools ahead of the " + time, row.count(11), time - 1);
            Rows.read(row);
            due("schools behind the " + time, row.count(11), time);
        }
    }

    /** What these numbers make in whole numbers without end, of which 64 bits are kept. */
    private static long folded(List<Integer> numbers) {
        BigInteger h = BigInteger.valueOf(773);
        for (int number : numbers) {
            h = h.multiply(BigInteger.valueOf(31)).add(BigInteger.valueOf(number));
        }
        return h.mod(WRAP).longValue();
    }

    private static void addCounts(List<Integer> numbers, SchoolRow row) {
        for (int what = 0; what <= 11; what++) {
            numbers.add(row.count(what));
        }
    }

    private static List<Integer> numbersOf(SchoolRow row, String page) {
        List<Integer> numbers = new ArrayList<>();
        for (int child = 0; child < row.count(6); child++) {
            for (int what = 0; what <= 4; what++) {
                numbers.add(row.about(child, what));
            }
            for (int subject = 0; subject < 4; subject++) {
                numbers.add(row.knows(child, subject, 0));
                numbers.add(row.knows(child, subject, 1));
                numbers.add(row.asks(child, subject));
            }
        }
        for (int what : new int[] {0, 1, 10, 11, 12, 13, 14, 15}) {
            numbers.add(row.order(what));
        }
        numbers.addAll(List.of(row.songs(10, 0), row.songs(10, 1), row.sick(0), row.sick(1)));
        page.chars().forEach(numbers::add);
        addCounts(numbers, row);
        return numbers;
    }

    /** "h is 773, then": without a school and a page just the twelve counts, all 0. */
    private static void digestWithoutSchool() {
        List<Integer> numbers = new ArrayList<>();
        addCounts(numbers, new SchoolRow());
        due("numbers", numbers.size(), 12);
        due("digest() of a new object", new SchoolRow().digest(), folded(numbers));
    }

    /** "letters of THE PAGE": up to 14, the least and the greatest codes among them. */
    private static void digestWithoutSchoolOfAPage() {
        for (String page : new String[] {" ", "~", "001111:c", " ~ ~ ~ ~ ~ ~ ~"}) {
            SchoolRow row = Rows.withPage(page);
            List<Integer> numbers = new ArrayList<>();
            page.chars().forEach(numbers::add);
            addCounts(numbers, row);
            due("digest() of '" + page + "'", row.digest(), folded(numbers));
        }
    }

    /** Seats and asked ones that are none are told as NONE, which is below 0. */
    private static void digestOfOne() {
        SchoolRow row = Rows.of("001111:c");
        due("digest() of one", row.digest(), folded(numbersOf(row, "")));
        row.lesson(3, false);
        row.tell(0, 0);
        row.ill(0, true);
        due("digest() of one of whom more is told", row.digest(), folded(numbersOf(row, "")));
    }

    /** "(as longs, wrapping)": 136 numbers wrap many times. */
    private static void digestOfSixWithAFullPage() {
        SchoolRow row = Rows.of("112345:csdghc");
        row.lesson(0, false);
        row.lesson(3, true);
        row.swap(0, 4);
        row.ill(2, true);
        row.lesson(1, false);
        row.tell(5, 1);
        row.tell(1, 0);
        Rows.write(row, "~~~~~~~       ");
        List<Integer> numbers = numbersOf(row, "~~~~~~~       ");
        due("numbers", numbers.size(), 6 * (5 + 4 * 3) + 8 + 2 + 2 + 14 + 12);
        due("digest() of six", row.digest(), folded(numbers));
    }

    /** "what songs() tells of 10": 10 is just enough, or 11 would be. */
    private static void digestOfSongsFor10() {
        SchoolRow enough = Rows.of("505555:cc");
        due("songs for 10, enough", enough.songs(10, 0), 3);
        due("digest() where 10 is enough", enough.digest(), folded(numbersOf(enough, "")));
        SchoolRow tooLittle = Rows.of("506599:cc");
        due("songs for 10, too little", tooLittle.songs(10, 0), 1);
        due("digest() where 10 is too little", tooLittle.digest(), folded(numbersOf(tooLittle, "")));
    }

    /** "for each of these numbers, in order". */
    private static void digestByTheOrderOfLetters() {
        CHECKS.holds("ab and ba differ", Rows.withPage("ab").digest() != Rows.withPage("ba").digest());
        SchoolRow row = Rows.withPage("abc");
        long three = row.digest();
        row.blank();
        due("digest() of a blank page", row.digest(), new SchoolRow().digest());
        Rows.write(row, "abc");
        due("digest() of the same page again", row.digest(), three);
    }

    /** "Nothing is promised beyond the answers and state changes described": digest() names none. */
    private static void aDigestChangesNothing() {
        SchoolRow row = Rows.of("112345:csdghc");
        row.lesson(0, false);
        row.image();
        row.swap(0, 1);
        long first = row.digest();
        due("digest() again", row.digest(), first);
        due("seat 0 still", row.seat(0), 1);
        due("restore() still", row.restore(), 6);
        due("seat 0 of the image", row.seat(0), 0);
    }

    /** "An object is used for at most 512 calls": the last of them is answered as the first. */
    private static void calls512() {
        SchoolRow row = new SchoolRow();
        int calls = 0;
        String text = "101111:cs";
        for (int time = 1; time <= 51; time++) {
            for (char letter : text.toCharArray()) {
                calls += row.letter(letter) > 0 ? 1 : 0;
            }
            due("school() " + time, row.school(), 2);
            calls++;
        }
        due("lesson(0, false)", row.lesson(0, false), 2);
        due("the 512th call: schools read", row.count(11), 51);
        due("calls that were made", calls + 2, 512);
    }

    /** As many of the dearest calls. */
    private static void dearCalls512() {
        SchoolRow row = Rows.of("101111:csgggg");
        row.lesson(0, false);
        long first = row.digest();
        // The text took 13 calls, three more come ahead of these.
        for (int call = 17; call <= 511; call += 3) {
            // The last one has no mistakes in front, and just behind the sister.
            due("orders() by call " + call, row.orders(5, 0, 0), 120 + 120);
            due("digest() by call " + call, row.digest(), first);
            due("years() by call " + call, row.years(60, 77, 2), 2044888003);
        }
        due("the 512th call", row.digest(), first);
    }
}
