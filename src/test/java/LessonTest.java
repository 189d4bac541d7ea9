/** Promises 11 to 14: lessons. */
public final class LessonTest {
    private static final Checks CHECKS = new Checks("LessonTest");

    private LessonTest() {
    }

    public static void main(String[] args) {
        whatIsKnown();
        aLessonDownTheRow();
        aSungLesson();
        tenthsAreRoundedUp();
        allTenthsAndNone();
        illOnesAreLeftOut();
        whoIsTaughtNoMoreKeepsWhatHeHas();
        aDoubterTakesHisTeachersOnly();
        anOwnMistakeThatCameBack();
        lessonsRefused();
        summers();
        mistakesGoWithTheLastPart();
        slatesWiped();
        CHECKS.end();
    }

    private static void due(String what, long got, long want) {
        CHECKS.due(what, got, want);
    }

    private static void knows(SchoolRow row, int child, int subject, int parts, int mistakes) {
        String who = "of " + child + " in " + subject;
        due("parts " + who, row.knows(child, subject, 0), parts);
        due("mistakes " + who, row.knows(child, subject, 1), mistakes);
    }

    private static void whatIsKnown() {
        SchoolRow row = Rows.of("351111:ch");
        for (int subject = 0; subject < 4; subject++) {
            knows(row, 0, subject, 0, 0);
        }
        row.lesson(3, false);
        knows(row, 0, 3, 100, 0);
        knows(row, 1, 3, 70, 1);
        knows(row, 1, 2, 0, 0);
        due("knows(2, 0, 0)", row.knows(2, 0, 0), SchoolRow.UNKNOWN);
        due("knows(-1, 0, 0)", row.knows(-1, 0, 0), SchoolRow.UNKNOWN);
        due("knows(0, 4, 0)", row.knows(0, 4, 0), SchoolRow.UNKNOWN);
        due("knows(0, -1, 0)", row.knows(0, -1, 0), SchoolRow.UNKNOWN);
        due("knows(0, 4, 9)", row.knows(0, 4, 9), SchoolRow.UNKNOWN);
        due("knows(0, 0, 2)", row.knows(0, 0, 2), SchoolRow.OUTSIDE);
        due("knows(0, 0, -1)", row.knows(0, 0, -1), SchoolRow.OUTSIDE);
    }

    private static void aLessonDownTheRow() {
        SchoolRow row = Rows.of("351111:chsdg");
        due("all learn", row.lesson(2, false), 5);
        knows(row, 0, 2, 100, 0);
        knows(row, 1, 2, 70, 1);
        knows(row, 2, 2, 70, 3);
        knows(row, 3, 2, 49, 0);
        knows(row, 4, 2, 34, 8);
        due("nobody learns twice", row.lesson(2, false), 0);
        due("another subject", row.lesson(1, false), 5);
    }

    private static void aSungLesson() {
        SchoolRow row = Rows.of("951111:ccsdg");
        due("all learn", row.lesson(0, true), 5);
        for (int child = 0; child < 5; child++) {
            knows(row, child, 0, 100, 0);
        }

        // One who has mistakes of others hands on those, and none of his own.
        row = Rows.of("001111:ccsc");
        row.lesson(0, false);
        knows(row, 1, 0, 100, 1);
        row.wipe(0, 0);
        row.wipe(3, 0);
        row.wipe(2, 0);
        row.swap(0, 1);
        row.lesson(0, true);
        knows(row, 1, 0, 100, 1);
        knows(row, 0, 0, 100, 1);
        knows(row, 2, 0, 100, 1);
        knows(row, 3, 0, 100, 0);
    }

    private static void tenthsAreRoundedUp() {
        SchoolRow row = Rows.of("101111:ccccc");
        row.lesson(0, false);
        knows(row, 1, 0, 90, 1);
        knows(row, 2, 0, 81, 3);
        knows(row, 3, 0, 72, 7);
        knows(row, 4, 0, 64, 15);
    }

    private static void allTenthsAndNone() {
        SchoolRow row = Rows.of("901111:cccc");
        due("two get nothing but the rest", row.lesson(0, false), 3);
        knows(row, 1, 0, 10, 1);
        knows(row, 2, 0, 1, 3);
        knows(row, 3, 0, 0, 0);
        row = Rows.of("001111:ccc");
        due("none are lost", row.lesson(0, false), 3);
        knows(row, 2, 0, 100, 3);
    }

    private static void illOnesAreLeftOut() {
        SchoolRow row = Rows.of("201111:cccc");
        row.ill(0, true);
        row.ill(2, true);
        due("two learn", row.lesson(0, false), 2);
        knows(row, 0, 0, 0, 0);
        knows(row, 1, 0, 100, 0);
        knows(row, 2, 0, 0, 0);
        knows(row, 3, 0, 80, 2);
        row.ill(1, true);
        row.ill(3, true);
        due("nobody learns", row.lesson(1, false), 0);
        due("nobody learns by a song", row.lesson(1, true), 0);
    }

    private static void whoIsTaughtNoMoreKeepsWhatHeHas() {
        SchoolRow row = Rows.of("501111:ccc");
        row.lesson(0, false);
        knows(row, 2, 0, 25, 3);
        row.swap(0, 2);
        // Now 2, 1, 0: he who has just as many keeps his own, and hands that on.
        due("one learns", row.lesson(0, false), 1);
        knows(row, 2, 0, 100, 0);
        knows(row, 1, 0, 50, 1);
        knows(row, 0, 0, 100, 0);
    }

    private static void aDoubterTakesHisTeachersOnly() {
        SchoolRow row = Rows.of("001111:cdcdsd");
        row.lesson(0, false);
        knows(row, 0, 0, 100, 0);
        knows(row, 1, 0, 100, 1);
        knows(row, 2, 0, 100, 3);
        knows(row, 3, 0, 100, 4);
        knows(row, 4, 0, 100, 12);
        knows(row, 5, 0, 100, 0);
        row = Rows.of("001111:chd");
        row.lesson(0, false);
        knows(row, 2, 0, 100, 2);
        row = Rows.of("001111:dcc");
        row.lesson(0, false);
        knows(row, 0, 0, 100, 0);
        row = Rows.of("001111:ccd");
        row.lesson(0, true);
        knows(row, 2, 0, 100, 0);
        row = Rows.of("001111:ccd");
        row.lesson(0, false);
        row.wipe(2, 0);
        row.lesson(0, true);
        knows(row, 2, 0, 100, 0);
    }

    /** His own mistake comes back to 0 by 1; in a song he hands it on as one that he has. */
    private static void anOwnMistakeThatCameBack() {
        SchoolRow row = Rows.of("001111:ccd");
        row.lesson(0, false);
        row.wipe(0, 0);
        row.wipe(2, 0);
        row.swap(0, 1);
        row.lesson(0, false);
        knows(row, 0, 0, 100, 3);
        row.wipe(2, 0);
        row.lesson(0, true);
        knows(row, 2, 0, 100, 1);
    }

    private static void lessonsRefused() {
        SchoolRow row = Rows.of("001111:c");
        long before = Rows.fingerprint(row);
        due("lesson(4)", row.lesson(4, false), SchoolRow.UNKNOWN);
        due("lesson(-1)", row.lesson(-1, true), SchoolRow.UNKNOWN);
        due("nothing has changed", Rows.fingerprint(row), before);
        due("lesson(4) without a school", new SchoolRow().lesson(4, false), SchoolRow.UNKNOWN);
        due("lesson(3) without a school", new SchoolRow().lesson(3, false), SchoolRow.STATE);
    }

    private static void summers() {
        SchoolRow row = Rows.of("231111:ghcs");
        row.lesson(0, false);
        row.lesson(1, true);
        row.ill(2, true);
        // Subject 0: 100, 100, 100, 80; subject 1: 100 each; the shouter forgets nothing.
        due("a summer", row.summer(), 30 + 30 + 24 + 30 + 30 + 30);
        knows(row, 0, 0, 70, 0);
        knows(row, 1, 0, 100, 1);
        knows(row, 2, 0, 70, 3);
        knows(row, 3, 0, 56, 7);
        knows(row, 3, 1, 70, 0);
        // 56 less 16.8: rounded up, 17 are forgotten.
        due("another summer", row.summer(), 21 + 21 + 17 + 21 + 21 + 21);
        knows(row, 3, 0, 39, 7);
        row = Rows.of("001111:cc");
        row.lesson(0, false);
        due("a summer that takes nothing", row.summer(), 0);
        due("a summer of those who know nothing", Rows.of("091111:cc").summer(), 0);
        due("a summer without a school", new SchoolRow().summer(), SchoolRow.STATE);
    }

    private static void mistakesGoWithTheLastPart() {
        SchoolRow row = Rows.of("091111:hcc");
        row.lesson(0, false);
        due("first summer", row.summer(), 180);
        knows(row, 2, 0, 10, 3);
        due("second summer", row.summer(), 18);
        knows(row, 2, 0, 1, 3);
        due("third summer", row.summer(), 2);
        knows(row, 2, 0, 0, 0);
        knows(row, 0, 0, 100, 0);
        due("fourth summer", row.summer(), 0);
    }

    private static void slatesWiped() {
        SchoolRow row = Rows.of("501111:cc");
        row.lesson(1, false);
        row.lesson(2, false);
        due("wipe(1, 1)", row.wipe(1, 1), 50);
        knows(row, 1, 1, 0, 0);
        knows(row, 1, 2, 50, 1);
        knows(row, 0, 1, 100, 0);
        due("wipe(1, 1) again", row.wipe(1, 1), 0);
        long before = Rows.fingerprint(row);
        due("wipe(2, 0)", row.wipe(2, 0), SchoolRow.UNKNOWN);
        due("wipe(-1, 0)", row.wipe(-1, 0), SchoolRow.UNKNOWN);
        due("wipe(0, 4)", row.wipe(0, 4), SchoolRow.UNKNOWN);
        due("wipe(0, -1)", row.wipe(0, -1), SchoolRow.UNKNOWN);
        due("refused wipes", Rows.fingerprint(row), before);
    }
}
