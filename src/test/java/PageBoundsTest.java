/** Promises 1 to 5: each sentence about a page or a school's text that names a bound. */
public final class PageBoundsTest {
    private static final Checks CHECKS = new Checks("PageBoundsTest");
    private static final String LONGEST = "909119:hgdsch";

    private PageBoundsTest() {
    }

    public static void main(String[] args) {
        codesFrom32To126();
        fourteenLettersAndNoMore();
        blankPages();
        lossIsADigit();
        forgetIsADigit();
        eachBreathIsADigitFrom1();
        aColonThen();
        childrenByFiveLetters();
        noPlaceBehindTheSixthChild();
        noFaultInAnyStart();
        theFirstFaultOfAll();
        aTextTooShort();
        aTextTooLong();
        oneToSixChildren();
        eachSeatIsItsChilds();
        thePageIsEmptyThen();
        anotherSchoolIsGone();
        aGreaterSchoolIsFresh();
        theSameSchoolOnceMore();
        CHECKS.end();
    }

    private static void due(String what, long got, long want) {
        CHECKS.due(what, got, want);
    }

    /** "OUTSIDE: code (32 to 126)". */
    private static void codesFrom32To126() {
        for (int code = -300; code <= 400; code++) {
            SchoolRow row = new SchoolRow();
            boolean is = code >= 32 && code <= 126;
            due("letter(" + code + ")", row.letter(code), is ? 1 : SchoolRow.OUTSIDE);
            due("letters then", row.count(10), is ? 1 : 0);
        }
    }

    /** "how many THE PAGE has"; "FULL: above 14". */
    private static void fourteenLettersAndNoMore() {
        SchoolRow row = new SchoolRow();
        for (int n = 1; n <= 14; n++) {
            due("letter " + n, row.letter('1'), n);
        }
        due("letter 15", row.letter('1'), SchoolRow.FULL);
        due("letter 15 again", row.letter('1'), SchoolRow.FULL);
        due("letters then", row.count(10), 14);
        due("blank() of a full page", row.blank(), 14);
        due("a letter behind that", row.letter('1'), 1);
    }

    /** "THE PAGE is empty: how many letters it had." */
    private static void blankPages() {
        SchoolRow row = new SchoolRow();
        due("blank() of an empty page", row.blank(), 0);
        Rows.write(row, "x");
        due("blank() of one letter", row.blank(), 1);
        due("fault() of a blank page", row.fault(), 0);
        due("letters of a blank page", row.count(10), 0);
    }

    /** Just these letters may stand there, behind the start of a school. */
    private static void onPlace(int place, String letters) {
        for (int code = 32; code <= 126; code++) {
            SchoolRow row = Rows.withPage(LONGEST.substring(0, place));
            row.letter(code);
            boolean is = letters.indexOf(code) >= 0;
            due("fault() with '" + (char) code + "' on " + place, row.fault(), is ? place + 1 : place);
        }
    }

    /** "a digit LOSS (0 to 9)". */
    private static void lossIsADigit() {
        onPlace(0, "0123456789");
        for (int digit = 0; digit <= 9; digit++) {
            due("LOSS " + digit, Rows.of(digit + "01111:c").count(0), digit);
        }
    }

    /** "a digit FORGET (0 to 9)". */
    private static void forgetIsADigit() {
        onPlace(1, "0123456789");
        for (int digit = 0; digit <= 9; digit++) {
            due("FORGET " + digit, Rows.of("0" + digit + "1111:c").count(1), digit);
        }
    }

    /** "four digits BREATH (1 to 9)". */
    private static void eachBreathIsADigitFrom1() {
        for (int subject = 0; subject < 4; subject++) {
            onPlace(2 + subject, "123456789");
            for (int digit = 1; digit <= 9; digit++) {
                String four = "5555".substring(0, subject) + digit + "5555".substring(subject + 1);
                due("BREATH of " + subject, Rows.of("00" + four + ":c").count(2 + subject), digit);
            }
        }
    }

    /** '":"': neither a fifth BREATH nor a CHILD stands there. */
    private static void aColonThen() {
        onPlace(6, ":");
    }

    /** '"c" CHILD, "s" SISTER, "d" DOUBTER, "g" SINGER, "h" SHOUTER (KINDS 0 to 4)'. */
    private static void childrenByFiveLetters() {
        for (int child = 0; child < 6; child++) {
            onPlace(7 + child, "csdgh");
            for (int kind = 0; kind <= 4; kind++) {
                SchoolRow row = Rows.of("001111:" + "c".repeat(child) + "csdgh".charAt(kind));
                due("kind " + kind + " of " + child, row.about(child, 0), kind);
            }
        }
    }

    /** "one to six letters": a seventh is the fault of a full page. */
    private static void noPlaceBehindTheSixthChild() {
        onPlace(13, "");
    }

    /** "how many letters it has, if there is none." */
    private static void noFaultInAnyStart() {
        for (int letters = 0; letters <= LONGEST.length(); letters++) {
            due("fault() of " + letters + " letters",
                    Rows.withPage(LONGEST.substring(0, letters)).fault(), letters);
        }
    }

    /** "The place (from 0) of the first letter [..] that no SCHOOL has there": a later one is not told. */
    private static void theFirstFaultOfAll() {
        for (int place = 0; place < 14; place++) {
            String text = LONGEST.substring(0, Math.min(place, 13)) + "~".repeat(14 - place);
            due("fault() from " + place + " on", Rows.withPage(text).fault(), place);
        }
        due("fault() ahead of a right rest", Rows.withPage("x09119:hgdsch").fault(), 0);
        due("fault() behind a fault", Rows.withPage("9x9x19:").fault(), 1);
    }

    /** "STATE: it is none": up to seven letters there is no child yet. */
    private static void aTextTooShort() {
        for (int letters = 0; letters <= 7; letters++) {
            none(LONGEST.substring(0, letters));
        }
    }

    /** "STATE: it is none": with a letter behind six children. */
    private static void aTextTooLong() {
        none(LONGEST + "c");
        none(LONGEST + " ");
    }

    private static void none(String text) {
        SchoolRow row = Rows.of("371234:sg");
        row.lesson(0, false);
        Rows.write(row, text);
        long before = Rows.fingerprint(row);
        due("school() of '" + text + "'", row.school(), SchoolRow.STATE);
        due("all is as it was behind '" + text + "'", Rows.fingerprint(row), before);
        due("the page of '" + text + "' still", row.blank(), text.length());
    }

    /** "one to six letters": "how many CHILDREN". */
    private static void oneToSixChildren() {
        for (int children = 1; children <= 6; children++) {
            SchoolRow row = Rows.withPage(LONGEST.substring(0, 7 + children));
            due("school() of " + children, row.school(), children);
            due("children of it", row.count(6), children);
            due("its last child's seat", row.about(children - 1, 1), children - 1);
            due("a child behind it", row.about(children, 1), SchoolRow.UNKNOWN);
            due("a seat behind it", row.seat(children), SchoolRow.UNKNOWN);
        }
    }

    /** "SEAT 0 (next to the master) is CHILD 0's, and so on." */
    private static void eachSeatIsItsChilds() {
        SchoolRow row = Rows.of(LONGEST);
        for (int child = 0; child < 6; child++) {
            due("seat of " + child, row.about(child, 1), child);
            due("child on seat " + child, row.seat(child), child);
        }
    }

    /** "THE PAGE is empty then." */
    private static void thePageIsEmptyThen() {
        SchoolRow row = Rows.of(LONGEST);
        due("letters then", row.count(10), 0);
        due("fault() then", row.fault(), 0);
        due("school() again", row.school(), SchoolRow.STATE);
        due("blank() then", row.blank(), 0);
        due("the next letter", row.letter('9'), 1);
    }

    private static SchoolRow sixOfWhomMuchIsTold() {
        SchoolRow row = Rows.of("101234:csgggg");
        row.lesson(0, false);
        row.lesson(3, true);
        for (int child = 0; child < 6; child++) {
            row.ill(child, true);
            row.tell(child, 1);
            row.swap(child, 5 - child / 2);
        }
        row.image();
        due("the best order of it", row.order(10), 2);
        return row;
    }

    /** "(another one is gone)": a smaller one, whose answers are those of a new object that read it. */
    private static void anotherSchoolIsGone() {
        SchoolRow row = sixOfWhomMuchIsTold();
        Rows.write(row, "504321:cc");
        due("school() of two", row.school(), 2);
        due("seat 0 of the best order then", row.order(10), 0);
        due("parts by the best order then", row.order(0), 50);
        due("a lesson then", row.lesson(0, false), 2);
        due("parts of all", row.count(8), 150);
        due("mistakes of all", row.count(9), 1);
        due("ill ones", row.count(7), 0);
        due("child 2 is gone", row.ill(2, true), SchoolRow.UNKNOWN);
        due("its image is gone", row.restore(), SchoolRow.STATE);
        due("sets of ill ones", row.sick(0), 4);
    }

    /** "(another one is gone)": nothing of a child that two schools ago had this number comes back. */
    private static void aGreaterSchoolIsFresh() {
        SchoolRow row = sixOfWhomMuchIsTold();
        Rows.write(row, "504321:c");
        Rows.read(row);
        Rows.write(row, "504321:cccccc");
        due("school() of six again", row.school(), 6);
        for (int child = 0; child < 6; child++) {
            due("kind of " + child, row.about(child, 0), 0);
            due("seat of " + child, row.about(child, 1), child);
            due("ill " + child, row.about(child, 2), 0);
            due("parts of " + child, row.about(child, 3), 0);
            due("told of " + child, row.about(child, 4), SchoolRow.NONE);
        }
        due("mistakes of all", row.count(9), 0);
        due("seat 0 of the best order then", row.order(10), 0);
    }

    /** A SCHOOL of the same text is another one, too. */
    private static void theSameSchoolOnceMore() {
        SchoolRow row = sixOfWhomMuchIsTold();
        Rows.write(row, "101234:csgggg");
        Rows.read(row);
        due("parts of all", row.count(8), 0);
        due("ill ones", row.count(7), 0);
        due("restore()", row.restore(), SchoolRow.STATE);
        due("schools read", row.count(11), 2);
    }
}
