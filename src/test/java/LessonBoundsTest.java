/** Promises 6 to 14: each sentence about children, lessons, summers and slates that names a bound. */
public final class LessonBoundsTest {
    private static final Checks CHECKS = new Checks("LessonBoundsTest");

    private LessonBoundsTest() {
    }

    public static void main(String[] args) {
        nothingIsKnownAtFirst();
        noMoreThanAHundredParts();
        aRowOfOne();
        aRowOfNobodyWell();
        onlyTheLastIsWell();
        tenthsLostAreRoundedUp();
        noTenthsLost();
        nothingLeftToGive();
        singersGiveAllWhole();
        onePartMore();
        justAsManyParts();
        onePartFewer();
        whoKeepsGivesWhatHeKept();
        aDoubterBehindTheMaster();
        aDoubterBehindASister();
        aDoubterBehindAnIllOne();
        aDoubterInASong();
        aDoubterInASongOfHisTeachersOwn();
        aSisterGivesNoMistakes();
        aSongGivesAllWhole();
        tenthsForgottenAreRoundedUp();
        noTenthsForgotten();
        aSummerOfTheIll();
        aSummerOfEachSubject();
        shoutersForgetNothing();
        theLastPartForgotten();
        slatesAtBothEnds();
        anEmptySlateWiped();
        mostOfAbout();
        kindsAtBothEnds();
        swapsAtBothEnds();
        illAndIllAgain();
        CHECKS.end();
    }

    private static void due(String what, long got, long want) {
        CHECKS.due(what, got, want);
    }

    private static void knows(SchoolRow row, int child, int subject, int parts, int mistakes) {
        String who = "of " + child + " in " + subject;
        due("parts " + who, row.knows(child, subject, 0), parts);
        due("mistakes " + who, row.knows(child, subject, 1), mistakes);
    }

    /** What is lost of some parts, rounded up: the first whole number that is no less than these tenths. */
    private static int lost(int parts, int tenths) {
        int lost = 0;
        while (10 * lost < parts * tenths) {
            lost++;
        }
        return lost;
    }

    /** "PARTS (0 to 100; 0 at first), with MISTAKES of so many CHILDREN (as bits; none at first)". */
    private static void nothingIsKnownAtFirst() {
        SchoolRow row = Rows.of("111111:csdghc");
        for (int child = 0; child < 6; child++) {
            for (int subject = 0; subject < 4; subject++) {
                knows(row, child, subject, 0, 0);
            }
        }
    }

    /** "PARTS (0 to 100 [..])". */
    private static void noMoreThanAHundredParts() {
        SchoolRow row = Rows.of("091111:hgcsd");
        for (int time = 0; time < 3; time++) {
            row.lesson(0, true);
            row.lesson(0, false);
        }
        for (int child = 0; child < 5; child++) {
            due("most parts of " + child, row.knows(child, 0, 0), 100);
        }
    }

    /** "the master teaches the first in the ROW who is not ILL": there is none behind him. */
    private static void aRowOfOne() {
        for (String kind : new String[] {"c", "s", "d", "g", "h"}) {
            SchoolRow row = Rows.of("991111:" + kind);
            due("a lesson for one " + kind, row.lesson(3, false), 1);
            knows(row, 0, 3, 100, 0);
            due("a song for one " + kind, row.lesson(2, true), 1);
            knows(row, 0, 2, 100, 0);
            due("once more for one " + kind, row.lesson(3, false), 0);
        }
    }

    /** "the first in the ROW who is not ILL": there is none. */
    private static void aRowOfNobodyWell() {
        SchoolRow row = Rows.of("101111:csdghc");
        for (int child = 0; child < 6; child++) {
            row.ill(child, true);
        }
        due("a lesson for nobody", row.lesson(0, false), 0);
        due("a song for nobody", row.lesson(0, true), 0);
        due("parts of all", row.count(8), 0);
    }

    /** "the first in the ROW who is not ILL": he sits behind all others. */
    private static void onlyTheLastIsWell() {
        SchoolRow row = Rows.of("901111:cccccc");
        for (int child = 0; child < 5; child++) {
            row.ill(child, true);
        }
        due("a lesson for the last", row.lesson(0, false), 1);
        knows(row, 5, 0, 100, 0);
        due("parts of all", row.count(8), 100);
    }

    /** "his PARTS less LOSS tenths of them (what is lost rounded up [..])". */
    private static void tenthsLostAreRoundedUp() {
        for (int loss = 0; loss <= 9; loss++) {
            SchoolRow row = Rows.of(loss + "01111:cccccc");
            row.lesson(1, false);
            int parts = 100;
            for (int child = 0; child < 6; child++) {
                knows(row, child, 1, parts, parts == 0 ? 0 : (1 << child) - 1);
                parts -= lost(parts, loss);
            }
        }
    }

    /** "LOSS (0 to 9 [..])": by 0 nothing is lost. */
    private static void noTenthsLost() {
        SchoolRow row = Rows.of("001111:cccccc");
        due("all six learn", row.lesson(0, false), 6);
        knows(row, 5, 0, 100, 31);
    }

    /** "Who is taught more PARTS than he has": 0 is no more than 0, and brings no MISTAKES. */
    private static void nothingLeftToGive() {
        SchoolRow row = Rows.of("901111:cccc");
        due("three learn", row.lesson(0, false), 3);
        knows(row, 2, 0, 1, 3);
        knows(row, 3, 0, 0, 0);
        // With 1 left out the others are a place nearer to the master.
        row.wipe(1, 0);
        row.ill(1, true);
        due("two learn", row.lesson(0, false), 2);
        knows(row, 2, 0, 10, 1);
        knows(row, 3, 0, 1, 5);
    }

    /** "(a SINGER, a SHOUTER give them whole), with [..] one of his own (a SINGER, a SHOUTER, too)". */
    private static void singersGiveAllWhole() {
        SchoolRow row = Rows.of("901111:ghghgc");
        due("all six learn", row.lesson(0, false), 6);
        for (int child = 0; child < 6; child++) {
            knows(row, child, 0, 100, (1 << child) - 1);
        }
    }

    /** "Who is taught more PARTS than he has has as many then": 40, one more than the 39 left of 80. */
    private static void onePartMore() {
        SchoolRow row = Rows.of("231111:ccccc");
        row.lesson(0, false);
        row.summer();
        row.summer();
        knows(row, 1, 0, 39, 1);
        row.swap(1, 4);
        due("all learn", row.lesson(0, false), 5);
        knows(row, 1, 0, 40, 1 + 4 + 8 + 16);
    }

    /** "who is not keeps what he has": he is taught 81, and has 81. */
    private static void justAsManyParts() {
        SchoolRow row = Rows.of("111111:ccc");
        row.lesson(0, false);
        row.summer();
        knows(row, 1, 0, 81, 1);
        row.swap(1, 2);
        due("two learn", row.lesson(0, false), 2);
        knows(row, 1, 0, 81, 1);
        knows(row, 2, 0, 90, 1);
    }

    /** "who is not keeps what he has": he is taught 34, one fewer than the 35 left of 70. */
    private static void onePartFewer() {
        SchoolRow row = Rows.of("351111:cccc");
        row.lesson(0, false);
        row.summer();
        knows(row, 1, 0, 35, 1);
        row.swap(1, 3);
        due("three learn", row.lesson(0, false), 3);
        knows(row, 2, 0, 49, 1 + 8);
        knows(row, 1, 0, 35, 1);
    }

    /** "who is not keeps what he has", and gives of that: the 100 that he has, not of the 50. */
    private static void whoKeepsGivesWhatHeKept() {
        SchoolRow row = Rows.of("501111:ccc");
        row.lesson(0, false);
        row.swap(0, 1);
        row.wipe(2, 0);
        due("the first and the last learn", row.lesson(0, false), 2);
        knows(row, 1, 0, 100, 0);
        knows(row, 0, 0, 100, 0);
        knows(row, 2, 0, 50, 1);
    }

    /** "The master gives 100 PARTS, without MISTAKES", to a DOUBTER, too. */
    private static void aDoubterBehindTheMaster() {
        SchoolRow row = Rows.of("901111:dd");
        row.lesson(0, false);
        knows(row, 0, 0, 100, 0);
        knows(row, 1, 0, 10, 1);
    }

    /** "just that of the one who teaches him, if it is given": a SISTER gives none. */
    private static void aDoubterBehindASister() {
        SchoolRow row = Rows.of("001111:ccsd");
        row.lesson(0, false);
        knows(row, 2, 0, 100, 3);
        knows(row, 3, 0, 100, 0);
    }

    /** "just that of the one who teaches him": that is not the ILL one next to him. */
    private static void aDoubterBehindAnIllOne() {
        SchoolRow row = Rows.of("001111:cccd");
        row.ill(2, true);
        row.lesson(0, false);
        knows(row, 3, 0, 100, 2);
    }

    /** "In a LESSON that is SUNG [..] none of their own": none is given to a DOUBTER. */
    private static void aDoubterInASong() {
        SchoolRow row = Rows.of("001111:ccd");
        row.lesson(0, false);
        row.wipe(2, 0);
        due("he alone learns", row.lesson(0, true), 1);
        knows(row, 1, 0, 100, 1);
        knows(row, 2, 0, 100, 0);
    }

    /** "just that of the one who teaches him, if it is given": his own came back to 0, who has it now. */
    private static void aDoubterInASongOfHisTeachersOwn() {
        SchoolRow row = Rows.of("001111:ccd");
        row.lesson(0, false);
        row.wipe(0, 0);
        row.wipe(2, 0);
        row.swap(0, 1);
        row.lesson(0, false);
        knows(row, 0, 0, 100, 3);
        row.wipe(2, 0);
        row.lesson(0, true);
        knows(row, 2, 0, 100, 1);
    }

    /** "a SISTER gives no MISTAKES at all", "(a SISTER none at all)". */
    private static void aSisterGivesNoMistakes() {
        SchoolRow row = Rows.of("001111:ccsc");
        row.lesson(0, false);
        knows(row, 2, 0, 100, 3);
        knows(row, 3, 0, 100, 0);
        row.wipe(3, 0);
        row.lesson(0, true);
        knows(row, 2, 0, 100, 3);
        knows(row, 3, 0, 100, 0);
    }

    /** "In a LESSON that is SUNG all give their PARTS whole, with their MISTAKES, none of their own". */
    private static void aSongGivesAllWhole() {
        SchoolRow row = Rows.of("991111:ccsdgh");
        due("all learn", row.lesson(0, true), 6);
        for (int child = 0; child < 6; child++) {
            knows(row, child, 0, 100, 0);
        }
        row = Rows.of("001111:ccc");
        row.lesson(0, false);
        row.wipe(2, 0);
        row.lesson(0, true);
        knows(row, 2, 0, 100, 1);
    }

    /** "each has FORGET tenths less of all his PARTS (what is lost rounded up [..])". */
    private static void tenthsForgottenAreRoundedUp() {
        for (int forget = 0; forget <= 9; forget++) {
            SchoolRow row = Rows.of("0" + forget + "1111:g");
            row.lesson(2, false);
            int parts = 100;
            for (int summer = 0; summer < 50; summer++) {
                int lost = lost(parts, forget);
                due("summer " + summer + " by " + forget, row.summer(), lost);
                parts -= lost;
                knows(row, 0, 2, parts, 0);
            }
            due("what is left by " + forget, parts, forget == 0 ? 100 : 0);
        }
    }

    /** "FORGET (0 to 9 [..])": by 0 nothing is forgotten. */
    private static void noTenthsForgotten() {
        SchoolRow row = Rows.of("001111:csdg");
        row.lesson(0, false);
        due("a summer", row.summer(), 0);
        due("parts of all", row.count(8), 400);
        due("mistakes of all", row.count(9), 1 + 1);
    }

    /** "each has FORGET tenths less": ILL ones, too. */
    private static void aSummerOfTheIll() {
        SchoolRow row = Rows.of("051111:cc");
        row.lesson(0, false);
        row.ill(0, true);
        row.ill(1, true);
        due("a summer", row.summer(), 100);
        knows(row, 0, 0, 50, 0);
        knows(row, 1, 0, 50, 1);
    }

    /** "of all his PARTS (what is lost rounded up [..])": of each SUBJECT, so 4 of 4 single ones. */
    private static void aSummerOfEachSubject() {
        SchoolRow row = Rows.of("911111:ccc");
        for (int subject = 0; subject < 4; subject++) {
            row.lesson(subject, false);
        }
        due("parts of the last one", row.about(2, 3), 4);
        due("a summer", row.summer(), 4 * (10 + 1 + 1));
        due("parts of the last one then", row.about(2, 3), 0);
        due("parts of the one ahead", row.about(1, 3), 36);
    }

    /** "(what is lost rounded up; a SHOUTER none)": a SINGER does. */
    private static void shoutersForgetNothing() {
        SchoolRow row = Rows.of("991111:hgh");
        row.lesson(0, false);
        due("a summer", row.summer(), 90);
        knows(row, 0, 0, 100, 0);
        knows(row, 1, 0, 10, 1);
        knows(row, 2, 0, 100, 3);
    }

    /** "who has 0 then has no MISTAKES", who has 1 has them. */
    private static void theLastPartForgotten() {
        SchoolRow row = Rows.of("091111:cc");
        row.lesson(0, false);
        due("the first summer", row.summer(), 180);
        due("the second summer", row.summer(), 18);
        knows(row, 1, 0, 1, 1);
        due("the third summer", row.summer(), 2);
        knows(row, 1, 0, 0, 0);
        due("mistakes of all", row.count(9), 0);
        due("the fourth summer", row.summer(), 0);
    }

    /** "WIPED: one has 0 PARTS, no MISTAKES, of a SUBJECT": of that one, and he alone. */
    private static void slatesAtBothEnds() {
        for (int child = 0; child < 6; child += 5) {
            for (int subject = 0; subject < 4; subject++) {
                SchoolRow row = Rows.of("001111:cccccc");
                for (int other = 0; other < 4; other++) {
                    row.lesson(other, false);
                }
                due("wipe(" + child + ", " + subject + ")", row.wipe(child, subject), 100);
                knows(row, child, subject, 0, 0);
                due("parts of all but that", row.count(8), 2300);
                due("mistakes of all but that", row.count(9), 4 * 15 - child);
            }
        }
    }

    /** "how many PARTS he had": none. */
    private static void anEmptySlateWiped() {
        SchoolRow row = Rows.of("901111:cccc");
        due("wipe(0, 0) of a new school", row.wipe(0, 0), 0);
        row.lesson(0, false);
        due("wipe(2, 0) of one part", row.wipe(2, 0), 1);
        due("wipe(2, 0) again", row.wipe(2, 0), 0);
        due("wipe(3, 0) of who learned nothing", row.wipe(3, 0), 0);
    }

    /** "3 PARTS of all SUBJECTS together": 400 at most; "1 SEAT": 0 to 5. */
    private static void mostOfAbout() {
        SchoolRow row = Rows.of("001111:cccccc");
        for (int subject = 0; subject < 4; subject++) {
            due("parts of the last one by " + subject, row.about(5, 3), 100 * subject);
            row.lesson(subject, true);
        }
        due("parts of the last one", row.about(5, 3), 400);
        row.swap(0, 5);
        due("the last seat", row.about(0, 1), 5);
        due("the first seat", row.about(5, 1), 0);
        row = Rows.of("001111:cc");
        row.ill(0, true);
        row.lesson(0, false);
        due("parts of one ahead of another one", row.about(0, 3), 0);
        due("parts of the other one", row.about(1, 3), 100);
    }

    /** "A CHILD taken as a KIND": "All are CHILDREN; a SHOUTER is a SINGER, too", no SINGER a SHOUTER. */
    private static void kindsAtBothEnds() {
        SchoolRow row = Rows.of("001111:ccsdgh");
        for (int child = 0; child < 6; child++) {
            due("as(" + child + ", 0)", row.as(child, 0), child);
        }
        due("a shouter as a singer", row.as(5, 3), 5);
        due("a shouter as a shouter", row.as(5, 4), 5);
        due("a singer as a shouter", row.as(4, 4), SchoolRow.NONE);
        due("a plain child as a sister", row.as(0, 1), SchoolRow.NONE);
        due("child 0 as a plain child", row.as(0, 0), 0);
    }

    /** "Two CHILDREN change places: the SEAT of b then"; "(they may be the same)". */
    private static void swapsAtBothEnds() {
        SchoolRow row = Rows.of("001111:cccccc");
        for (int child = 0; child < 6; child++) {
            due("swap of the same " + child, row.swap(child, child), child);
        }
        due("swap(0, 5)", row.swap(0, 5), 0);
        due("swap(0, 5) back", row.swap(0, 5), 5);
        due("swap(5, 0)", row.swap(5, 0), 5);
        int[] want = {5, 1, 2, 3, 4, 0};
        for (int seat = 0; seat < 6; seat++) {
            due("who sits on " + seat, row.seat(seat), want[seat]);
        }
        due("a swap of one alone", Rows.of("001111:c").swap(0, 0), 0);
    }

    /** "He is ILL, or not: whether he was (1, 0)": he may be so already. */
    private static void illAndIllAgain() {
        SchoolRow row = Rows.of("001111:cccccc");
        for (int child = 0; child < 6; child++) {
            due("not ill " + child + " still", row.ill(child, false), 0);
            due("ill " + child, row.ill(child, true), 0);
            due("ill ones", row.count(7), child + 1);
            due("ill " + child + " again", row.ill(child, true), 1);
        }
        due("no more ill 5", row.ill(5, false), 1);
        due("no more ill 0", row.ill(0, false), 1);
        due("ill ones then", row.count(7), 4);
    }
}
