/** Promises 15 to 17: what would be. */
public final class WouldBeTest {
    private static final Checks CHECKS = new Checks("WouldBeTest");

    private WouldBeTest() {
    }

    public static void main(String[] args) {
        bestOrders();
        ordersHangOnTheSchoolAlone();
        ordersRefused();
        songsForBreath();
        songsOfLikePartsByLeastBits();
        songsFromWhatIsKnownNow();
        songsRefused();
        askedUp();
        askedUpByFewerMistakes();
        askedUpRefused();
        CHECKS.end();
    }

    private static void due(String what, long got, long want) {
        CHECKS.due(what, got, want);
    }

    private static void best(String text, int parts, int mistakes, int... seats) {
        SchoolRow row = Rows.of(text);
        due("parts of the last one of " + text, row.order(0), parts);
        due("mistakes of the last one of " + text, row.order(1), mistakes);
        for (int seat = 0; seat < 6; seat++) {
            int want = seat < seats.length ? seats[seat] : SchoolRow.NONE;
            due("who is to sit on " + seat + " of " + text, row.order(10 + seat), want);
        }
    }

    private static void bestOrders() {
        best("901111:c", 100, 0, 0);
        best("201111:csg", 80, 0, 2, 1, 0);
        // More parts go ahead of fewer mistakes.
        best("501111:sgg", 100, 2, 1, 2, 0);
        // All alike: the first by numbers.
        best("001111:ccc", 100, 2, 0, 1, 2);
        best("901111:hgc", 100, 2, 0, 1, 2);
        // Who doubts has but one mistake, who has a sister ahead none.
        best("001111:dcc", 100, 1, 1, 2, 0);
        best("001111:scc", 100, 0, 1, 0, 2);
        best("901111:cccccc", 0, 0, 0, 1, 2, 3, 4, 5);
    }

    private static void ordersHangOnTheSchoolAlone() {
        SchoolRow row = Rows.of("201111:csg");
        row.swap(0, 2);
        row.ill(1, true);
        row.lesson(0, true);
        row.tell(0, 1);
        long before = Rows.fingerprint(row);
        due("parts", row.order(0), 80);
        due("seat 0", row.order(10), 2);
        due("seat 1", row.order(11), 1);
        due("seat 2", row.order(12), 0);
        due("nothing has changed", Rows.fingerprint(row), before);
        due("seats now", row.seat(0), 2);
    }

    private static void ordersRefused() {
        SchoolRow row = Rows.of("201111:csgcsg");
        for (int what : new int[] {-1, 2, 9, 16, Integer.MIN_VALUE, Integer.MAX_VALUE}) {
            due("order(" + what + ")", row.order(what), SchoolRow.OUTSIDE);
            due("order(" + what + ") without a school", new SchoolRow().order(what), SchoolRow.OUTSIDE);
        }
        due("order(15) without a school", new SchoolRow().order(15), SchoolRow.STATE);
    }

    private static void songs(SchoolRow row, int breath, int which, int parts) {
        long before = Rows.fingerprint(row);
        due("songs for " + breath, row.songs(breath, 0), which);
        due("parts by songs for " + breath, row.songs(breath, 1), parts);
        due("nothing has changed by songs for " + breath, Rows.fingerprint(row), before);
    }

    private static void songsForBreath() {
        // 150 parts by a lesson, 200 by a song; breath 3, 2, 1, 5.
        SchoolRow row = Rows.of("503215:cc");
        songs(row, 0, 0, 600);
        songs(row, 1, 4, 650);
        songs(row, 2, 2, 650);
        songs(row, 3, 6, 700);
        songs(row, 4, 5, 700);
        songs(row, 5, 3, 700);
        songs(row, 6, 7, 750);
        songs(row, 8, 7, 750);
        songs(row, 10, 7, 750);
        songs(row, 11, 15, 800);
        songs(row, 40, 15, 800);
    }

    private static void songsOfLikePartsByLeastBits() {
        SchoolRow row = Rows.of("501129:cccc");
        for (int subject = 0; subject < 4; subject++) {
            row.lesson(subject, true);
        }
        row.wipe(3, 0);
        row.wipe(3, 1);
        row.wipe(1, 2);
        row.wipe(3, 2);
        // A song of 2 brings 100 parts, one of 0 or 1 brings 50: two songs of few bits, not one of more.
        songs(row, 2, 3, 1500);
        songs(row, 1, 1, 1450);
        songs(row, 4, 7, 1600);
        songs(row, 13, 7, 1600);
    }

    private static void songsFromWhatIsKnownNow() {
        SchoolRow row = Rows.of("901111:cccc");
        songs(row, 1, 1, 400 + 3 * 111);
        row.lesson(0, true);
        songs(row, 1, 2, 800 + 2 * 111);
        row.ill(0, true);
        row.ill(3, true);
        songs(row, 1, 2, 400 + 200 + 2 * 110);
        for (int child = 0; child < 4; child++) {
            row.ill(child, true);
        }
        songs(row, 40, 0, 400);
    }

    private static void songsRefused() {
        SchoolRow row = Rows.of("901111:cc");
        due("songs(-1, 0)", row.songs(-1, 0), SchoolRow.OUTSIDE);
        due("songs(41, 0)", row.songs(41, 0), SchoolRow.OUTSIDE);
        due("songs(0, 2)", row.songs(0, 2), SchoolRow.OUTSIDE);
        due("songs(0, -1)", row.songs(0, -1), SchoolRow.OUTSIDE);
        due("songs(41, 0) without a school", new SchoolRow().songs(41, 0), SchoolRow.OUTSIDE);
        due("songs(0, 2) without a school", new SchoolRow().songs(0, 2), SchoolRow.OUTSIDE);
        due("songs(40, 1) without a school", new SchoolRow().songs(40, 1), SchoolRow.STATE);
    }

    private static void askedUp() {
        SchoolRow row = Rows.of("501111:cccc");
        due("nobody knows anything", row.asks(3, 0), SchoolRow.NONE);
        row.lesson(1, false);
        due("the first asks", row.asks(0, 1), SchoolRow.NONE);
        due("the second asks", row.asks(1, 1), 0);
        due("the last asks", row.asks(3, 1), 2);
        due("the last asks of another subject", row.asks(3, 0), SchoolRow.NONE);
        row.ill(2, true);
        due("the last asks over an ill one", row.asks(3, 1), 1);
        row.ill(3, true);
        due("an ill one asks", row.asks(3, 1), 1);
        row.swap(3, 0);
        due("who is behind is not asked", row.asks(3, 1), SchoolRow.NONE);
        due("who knows most asks", row.asks(0, 1), SchoolRow.NONE);
        row.wipe(2, 1);
        due("more parts with more mistakes", row.asks(2, 1), 1);
    }

    private static void askedUpByFewerMistakes() {
        SchoolRow row = Rows.of("001111:cccc");
        row.lesson(0, false);
        due("as many with fewer", row.asks(3, 0), 2);
        row.swap(2, 3);
        due("as many with more", row.asks(2, 0), 1);
        row = Rows.of("001111:cscc");
        row.lesson(0, false);
        // Mistakes of the four: none, 0, none, 2: one mistake is no fewer than another one.
        due("as many with as many", row.asks(3, 0), 2);
        row.ill(2, true);
        due("as many, with another one", row.asks(3, 0), 0);
        due("as many, both with none", row.asks(2, 0), SchoolRow.NONE);
    }

    private static void askedUpRefused() {
        SchoolRow row = Rows.of("001111:cc");
        due("asks(2, 0)", row.asks(2, 0), SchoolRow.UNKNOWN);
        due("asks(-1, 0)", row.asks(-1, 0), SchoolRow.UNKNOWN);
        due("asks(0, 4)", row.asks(0, 4), SchoolRow.UNKNOWN);
        due("asks(0, -1)", row.asks(0, -1), SchoolRow.UNKNOWN);
    }
}
