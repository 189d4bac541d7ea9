/** Promises 15 to 17: each sentence about what would be that names a bound. */
public final class WouldBeBoundsTest {
    private static final Checks CHECKS = new Checks("WouldBeBoundsTest");

    private WouldBeBoundsTest() {
    }

    public static void main(String[] args) {
        anOrderOfOne();
        noSuchSeat();
        theFirstOrderOfAll();
        theLastOrderOfAll();
        likeOnesByFewestMistakes();
        mistakesByHowManyNotWhich();
        ordersFromNothing();
        noBreath();
        mostBreath();
        breathToTheLast();
        songsThatBringNothing();
        songsOfLikePartsByLeastBits();
        songsWithPartsOfTheIll();
        songsForNobody();
        nobodyAhead();
        onePartMoreOrFewer();
        asManyParts();
        theNearestNotTheBest();
        illOnesAhead();
        anIllOneAsks();
        CHECKS.end();
    }

    private static void due(String what, long got, long want) {
        CHECKS.due(what, got, want);
    }

    private static void best(SchoolRow row, int parts, int mistakes, int... seats) {
        due("parts of the last one", row.order(0), parts);
        due("mistakes of the last one", row.order(1), mistakes);
        for (int seat = 0; seat < 6; seat++) {
            int want = seat < seats.length ? seats[seat] : SchoolRow.NONE;
            due("who is to sit on " + seat, row.order(10 + seat), want);
        }
    }

    /** The last one is the first, too. */
    private static void anOrderOfOne() {
        for (String kind : new String[] {"c", "s", "d", "g", "h"}) {
            best(Rows.of("901111:" + kind), 100, 0, 0);
        }
    }

    /** "10 to 15 the CHILD on SEAT 0 to 5 (NONE: there is no such SEAT)". */
    private static void noSuchSeat() {
        for (int children = 1; children <= 6; children++) {
            SchoolRow row = Rows.of("001111:" + "c".repeat(children));
            due("the last seat of " + children, row.order(9 + children), children - 1);
            for (int seat = children; seat < 6; seat++) {
                due("seat " + seat + " of " + children, row.order(10 + seat), SchoolRow.NONE);
            }
        }
    }

    /** "of like ones the first by numbers, SEAT 0 first": all are alike. */
    private static void theFirstOrderOfAll() {
        best(Rows.of("001111:cccccc"), 100, 5, 0, 1, 2, 3, 4, 5);
        best(Rows.of("901111:cccccc"), 0, 0, 0, 1, 2, 3, 4, 5);
        best(Rows.of("001111:gggggg"), 100, 5, 0, 1, 2, 3, 4, 5);
    }

    /** No order is left out: the best one is the last by numbers, or stands far behind. */
    private static void theLastOrderOfAll() {
        best(Rows.of("201111:csg"), 80, 0, 2, 1, 0);
        best(Rows.of("101111:csgggg"), 90, 0, 2, 3, 4, 5, 1, 0);
    }

    /** "so that the last one has most PARTS; of like ones by the fewest MISTAKES". */
    private static void likeOnesByFewestMistakes() {
        best(Rows.of("001111:scc"), 100, 0, 1, 0, 2);
        // Behind the sister the last one would have fewer mistakes, but fewer parts, too.
        best(Rows.of("101111:gsg"), 100, 2, 0, 2, 1);
        best(Rows.of("101111:ggd"), 100, 1, 0, 1, 2);
    }

    /** "(how many bits)": one MISTAKE of 1 is like one of 0, so the first by numbers stays. */
    private static void mistakesByHowManyNotWhich() {
        best(Rows.of("001111:ccd"), 100, 1, 0, 1, 2);
    }

    /** "(From 0 PARTS of all, nobody ILL, by one LESSON that is not SUNG:)", whatever is so now. */
    private static void ordersFromNothing() {
        SchoolRow row = Rows.of("101111:csgggg");
        for (int child = 0; child < 6; child++) {
            row.lesson(0, true);
            row.ill(child, true);
            row.tell(child, 0);
            row.swap(child, 0);
        }
        best(row, 90, 0, 2, 3, 4, 5, 1, 0);
    }

    private static void songs(SchoolRow row, int breath, int which, int parts) {
        due("songs for " + breath, row.songs(breath, 0), which);
        due("parts by songs for " + breath, row.songs(breath, 1), parts);
    }

    /** "so much BREATH (0 to 40)": for 0 nothing is sung, the lessons are given. */
    private static void noBreath() {
        songs(Rows.of("501111:cc"), 0, 0, 4 * 150);
    }

    /** "(0 to 40)": 40 is more than the dearest songs take, which is 36. */
    private static void mostBreath() {
        SchoolRow row = Rows.of("509999:cc");
        songs(row, 40, 15, 800);
        songs(row, 36, 15, 800);
        songs(row, 35, 7, 750);
    }

    /** "for no more BREATH together": as much is enough, one less is not. */
    private static void breathToTheLast() {
        SchoolRow row = Rows.of("509753:cc");
        songs(row, 2, 0, 600);
        songs(row, 3, 8, 650);
        songs(row, 4, 8, 650);
        songs(row, 5, 4, 650);
        songs(row, 6, 4, 650);
        songs(row, 7, 2, 650);
        songs(row, 8, 12, 700);
        songs(row, 9, 12, 700);
        songs(row, 10, 10, 700);
        songs(row, 14, 5, 700);
        songs(row, 15, 14, 750);
        songs(row, 20, 11, 750);
        songs(row, 21, 7, 750);
        songs(row, 23, 7, 750);
        songs(row, 24, 15, 800);
    }

    /** "of like ones the least bits": a SONG that brings no more is not sung. */
    private static void songsThatBringNothing() {
        SchoolRow row = Rows.of("501111:c");
        songs(row, 40, 0, 400);
        row = Rows.of("501111:cc");
        row.lesson(1, true);
        row.lesson(3, true);
        songs(row, 40, 5, 800);
        songs(Rows.of("001111:cc"), 40, 0, 800);
    }

    /** "of like ones the least bits": the least number that they make. */
    private static void songsOfLikePartsByLeastBits() {
        SchoolRow row = Rows.of("501111:cc");
        songs(row, 1, 1, 650);
        songs(row, 2, 3, 700);
        songs(row, 3, 7, 750);
        row.lesson(0, true);
        songs(row, 1, 2, 700);
        songs(row, 2, 6, 750);
    }

    /** "(ILL ones as now)", "PARTS of all": those that ILL ones have are counted, and not more. */
    private static void songsWithPartsOfTheIll() {
        SchoolRow row = Rows.of("501111:ccc");
        row.lesson(0, false);
        row.ill(2, true);
        songs(row, 0, 0, 25 + 4 * 150);
        songs(row, 40, 15, 25 + 4 * 200);
        row.ill(2, false);
        songs(row, 40, 15, 1200);
    }

    /** "(ILL ones as now)": all are. */
    private static void songsForNobody() {
        SchoolRow row = Rows.of("501111:cc");
        row.lesson(0, false);
        row.ill(0, true);
        row.ill(1, true);
        songs(row, 0, 0, 150);
        songs(row, 40, 0, 150);
    }

    /** "none": nobody sits ahead of the first, and nobody knows more than who knows most. */
    private static void nobodyAhead() {
        SchoolRow row = Rows.of("501111:cccccc");
        for (int subject = 0; subject < 4; subject++) {
            due("the first asks of " + subject, row.asks(0, subject), SchoolRow.NONE);
            due("the last asks of " + subject, row.asks(5, subject), SchoolRow.NONE);
            row.lesson(subject, false);
            due("the first asks still of " + subject, row.asks(0, subject), SchoolRow.NONE);
            due("the last asks then of " + subject, row.asks(5, subject), 4);
        }
        due("one alone asks", Rows.of("501111:c").asks(0, 0), SchoolRow.NONE);
        row.swap(0, 5);
        due("he knows most, and sits last", row.asks(0, 0), SchoolRow.NONE);
        due("he knows least, and sits first", row.asks(5, 0), SchoolRow.NONE);
    }

    /** "who have PARTS of a SUBJECT more than he": 40 by four mistakes are more than 39 by one. */
    private static void onePartMoreOrFewer() {
        SchoolRow row = Rows.of("231111:cccccc");
        row.lesson(0, false);
        row.summer();
        row.summer();
        row.ill(1, true);
        row.lesson(0, false);
        for (int other : new int[] {0, 2, 3, 4}) {
            row.wipe(other, 0);
        }
        row.ill(1, false);
        due("parts of 1", row.knows(1, 0, 0), 39);
        due("mistakes of 1", row.knows(1, 0, 1), 1);
        due("parts of 5", row.knows(5, 0, 0), 40);
        due("mistakes of 5", row.knows(5, 0, 1), 1 + 4 + 8 + 16);
        due("one with a part fewer ahead", row.asks(5, 0), SchoolRow.NONE);
        due("one with a part more behind", row.asks(1, 0), SchoolRow.NONE);
        row.swap(1, 5);
        due("one with a part more ahead", row.asks(1, 0), 5);
        due("one with a part fewer behind", row.asks(5, 0), SchoolRow.NONE);
    }

    /** "or as many with fewer MISTAKES": not with as many, not with more. */
    private static void asManyParts() {
        SchoolRow row = Rows.of("001111:ccsccc");
        row.lesson(0, false);
        // Mistakes: none, 0, 0 and 1, none, 3, 3 and 4.
        due("one more than the one ahead", row.asks(5, 0), 4);
        due("one against none", row.asks(4, 0), 3);
        due("none against all", row.asks(3, 0), SchoolRow.NONE);
        due("two against one", row.asks(2, 0), 1);
        row.ill(3, true);
        row.swap(4, 2);
        // Now 0, 1, 4, 3 (ill), 2, 5: 4 has one mistake as 1 has, 2 has two.
        due("one against another one", row.asks(4, 0), 0);
        row.ill(0, true);
        due("one against another one alone", row.asks(4, 0), SchoolRow.NONE);
        due("two against one of 3", row.asks(2, 0), 4);
        due("two against two", row.asks(5, 0), 4);
    }

    /** "the nearest". */
    private static void theNearestNotTheBest() {
        SchoolRow row = Rows.of("101111:cccccc");
        row.lesson(2, false);
        for (int child = 1; child < 6; child++) {
            due(child + " asks", row.asks(child, 2), child - 1);
        }
        row.swap(1, 4);
        due("over who knows less", row.asks(2, 2), 0);
    }

    /** "and are not ILL". */
    private static void illOnesAhead() {
        SchoolRow row = Rows.of("101111:cccccc");
        row.lesson(3, false);
        for (int ill = 4; ill > 0; ill--) {
            row.ill(ill, true);
            due("the last asks over " + ill, row.asks(5, 3), ill - 1);
        }
        row.ill(0, true);
        due("the last asks over all", row.asks(5, 3), SchoolRow.NONE);
    }

    /** Only those ahead must not be ILL: he himself may be. */
    private static void anIllOneAsks() {
        SchoolRow row = Rows.of("101111:cc");
        row.lesson(0, false);
        row.ill(1, true);
        due("an ill one asks", row.asks(1, 0), 0);
    }
}
