import java.math.BigInteger;

/** Promises 18 to 21: told back. */
public final class ToldBackTest {
    private static final Checks CHECKS = new Checks("ToldBackTest");

    private ToldBackTest() {
    }

    public static void main(String[] args) {
        ordersByMistakes();
        ordersOfThoseWhoGetNothing();
        ordersRefused();
        toldForSick();
        sickByWhatIsTold();
        sickAsTheySitNow();
        sickRefused();
        aYearByHand();
        yearsAsTheyWouldBe();
        yearsRefused();
        CHECKS.end();
    }

    private static void due(String what, long got, long want) {
        CHECKS.due(what, got, want);
    }

    private static void ordersByMistakes() {
        SchoolRow row = Rows.of("001111:ccc");
        due("he is the first", row.orders(0, 0, 0), 2);
        due("he is the first, on his seat", row.orders(0, 0, 1), 2);
        due("he is behind 1", row.orders(0, 2, 0), 1);
        due("he is behind 1, on his seat", row.orders(0, 2, 1), 0);
        due("he is the last", row.orders(0, 6, 0), 2);
        due("his own mistake", row.orders(0, 1, 0), 0);
        row.swap(0, 1);
        row.ill(0, true);
        row.lesson(0, true);
        long before = Rows.fingerprint(row);
        due("behind 1, on the seat where he is now", row.orders(0, 2, 1), 1);
        due("the first, on the seat where he is now", row.orders(0, 0, 1), 0);
        due("behind 1 still", row.orders(0, 2, 0), 1);
        due("nothing has changed", Rows.fingerprint(row), before);
        row = Rows.of("001111:cccccc");
        due("the first of six", row.orders(0, 0, 0), 120);
        due("the last of six", row.orders(0, 62, 0), 120);
        due("the last of six, on his seat", row.orders(5, 31, 1), 120);
        row = Rows.of("201111:csg");
        due("behind the singer who is behind the sister", row.orders(0, 4, 0), 2);
        due("behind both", row.orders(1, 5, 0), 2);
    }

    private static void ordersOfThoseWhoGetNothing() {
        SchoolRow row = Rows.of("901111:cccc");
        due("first of all, or without parts", row.orders(3, 0, 0), 6 + 6);
        due("just behind 0", row.orders(3, 1, 0), 2);
        due("with three mistakes", row.orders(3, 7, 0), 0);
        due("on the last seat without parts", row.orders(3, 0, 1), 6);
    }

    private static void ordersRefused() {
        SchoolRow row = Rows.of("001111:ccc");
        due("orders(3, 0, 0)", row.orders(3, 0, 0), SchoolRow.UNKNOWN);
        due("orders(-1, 9, 9)", row.orders(-1, 9, 9), SchoolRow.UNKNOWN);
        due("orders(0, 8, 0)", row.orders(0, 8, 0), SchoolRow.OUTSIDE);
        due("orders(0, -1, 0)", row.orders(0, -1, 0), SchoolRow.OUTSIDE);
        due("orders(0, 0, 2)", row.orders(0, 0, 2), SchoolRow.OUTSIDE);
        due("orders(0, 0, -1)", row.orders(0, 0, -1), SchoolRow.OUTSIDE);
        due("orders(0, 7, 0)", row.orders(0, 7, 0), 0);
    }

    private static void toldForSick() {
        SchoolRow row = Rows.of("001111:cc");
        due("nothing told", row.tell(1, 0), SchoolRow.NONE);
        due("0 was told", row.tell(1, 1), 0);
        due("1 was told", row.tell(1, SchoolRow.NONE), 1);
        due("nothing told any more", row.tell(1, 1), SchoolRow.NONE);
        due("of the other one nothing", row.about(0, 4), SchoolRow.NONE);
        long before = Rows.fingerprint(row);
        due("tell(2, 0)", row.tell(2, 0), SchoolRow.UNKNOWN);
        due("tell(-1, 5)", row.tell(-1, 5), SchoolRow.UNKNOWN);
        due("tell(0, 2)", row.tell(0, 2), SchoolRow.OUTSIDE);
        due("tell(0, -2)", row.tell(0, -2), SchoolRow.OUTSIDE);
        due("nothing has changed", Rows.fingerprint(row), before);
    }

    private static void sick(SchoolRow row, String when, int sets, int sure) {
        due("sets when " + when, row.sick(0), sets);
        long before = Rows.fingerprint(row);
        due("sure when " + when, row.sick(1), sure);
        due("unchanged when " + when, Rows.fingerprint(row), before);
    }

    private static void sickByWhatIsTold() {
        SchoolRow row = Rows.of("001111:ccc");
        sick(row, "nothing is told", 8, 0);
        row.tell(1, 0);
        sick(row, "one got nothing", 4, 2);
        row.tell(0, 1);
        sick(row, "another one got some", 2, 2);
        row.tell(2, 0);
        sick(row, "all is told", 1, 6);
        row.tell(1, SchoolRow.NONE);
        sick(row, "nothing is told of 1 any more", 2, 4);
        row.tell(0, 0);
        row.tell(1, 0);
        sick(row, "all got nothing", 1, 7);
        row = Rows.of("901111:cccc");
        for (int child = 0; child < 4; child++) {
            row.tell(child, 1);
        }
        sick(row, "it cannot be", 0, 0);
    }

    private static void sickAsTheySitNow() {
        SchoolRow row = Rows.of("901111:cccc");
        row.lesson(0, true);
        row.ill(0, true);
        row.tell(3, 0);
        sick(row, "the last one got nothing", 8 + 1, 0);
        row.tell(3, 1);
        sick(row, "the last one got some", 7, 0);
        row.swap(0, 3);
        row.tell(3, 0);
        sick(row, "he sits in front", 8, 8);
    }

    private static void sickRefused() {
        SchoolRow row = Rows.of("001111:ccc");
        due("sick(2)", row.sick(2), SchoolRow.OUTSIDE);
        due("sick(-1)", row.sick(-1), SchoolRow.OUTSIDE);
        due("sick(2) without a school", new SchoolRow().sick(2), SchoolRow.OUTSIDE);
        due("sick(1) without a school", new SchoolRow().sick(1), SchoolRow.STATE);
    }

    /** From seed 0 the next one is 12345, and the draw of it 0: a lesson of subject 0. */
    private static void aYearByHand() {
        SchoolRow row = Rows.of("501111:cc");
        due("parts", row.years(1, 0, 0), 150);
        due("mistakes", row.years(1, 0, 1), 1);
        due("seed", row.years(1, 0, 2), 12345);
        row.lesson(0, true);
        due("parts of those who know more", row.years(1, 0, 0), 200);
        due("mistakes of those who know more", row.years(1, 0, 1), 0);
        row.wipe(1, 0);
        row.ill(0, true);
        due("parts while one is ill", row.years(1, 0, 0), 200);
    }

    private static void yearsAsTheyWouldBe() {
        String[] texts = {"121111:csdghc", "551111:dch", "091111:c", "941111:ghds"};
        int[] seeds = {0, 1, 77, 65535, 1234567, Integer.MAX_VALUE};
        int[] times = {1, 2, 7, 30, 60};
        for (String text : texts) {
            for (int seed : seeds) {
                for (int time : times) {
                    yearsLikeCalls(text, time, seed);
                }
            }
        }
    }

    /** What years tell is what the calls that they stand for would bring. */
    private static void yearsLikeCalls(String text, int times, int seed) {
        SchoolRow row = prepared(text);
        long before = Rows.fingerprint(row);
        Draws draws = new Draws(seed);
        SchoolRow called = prepared(text);
        for (int time = 0; time < times; time++) {
            int event = draws.next(6);
            if (event < 4) {
                called.lesson(event, false);
            } else if (event == 4) {
                called.summer();
            } else {
                int a = called.seat(draws.next(called.count(6)));
                called.swap(a, called.seat(draws.next(called.count(6))));
            }
        }
        String name = times + " years by " + seed + " of " + text;
        due("parts after " + name, row.years(times, seed, 0), called.count(8));
        due("mistakes after " + name, row.years(times, seed, 1), called.count(9));
        due("seed after " + name, row.years(times, seed, 2), draws.seed());
        due("unchanged by " + name, Rows.fingerprint(row), before);
    }

    private static SchoolRow prepared(String text) {
        SchoolRow row = Rows.of(text);
        row.lesson(1, true);
        row.ill(1, true);
        return row;
    }

    private static void yearsRefused() {
        SchoolRow row = Rows.of("001111:ccc");
        due("years(0, 0, 0)", row.years(0, 0, 0), SchoolRow.OUTSIDE);
        due("years(61, 0, 0)", row.years(61, 0, 0), SchoolRow.OUTSIDE);
        due("years(1, -1, 0)", row.years(1, -1, 0), SchoolRow.OUTSIDE);
        due("years(1, 0, 3)", row.years(1, 0, 3), SchoolRow.OUTSIDE);
        due("years(1, 0, -1)", row.years(1, 0, -1), SchoolRow.OUTSIDE);
        due("years(0, 0, 0) without a school", new SchoolRow().years(0, 0, 0), SchoolRow.OUTSIDE);
        due("years(60, 0, 2) without a school", new SchoolRow().years(60, 0, 2), SchoolRow.STATE);
    }

    /** The draws as the document tells them, in numbers without end. */
    private static final class Draws {
        private BigInteger seed;

        Draws(int seed) {
            this.seed = BigInteger.valueOf(seed);
        }

        int next(int of) {
            seed = seed.multiply(BigInteger.valueOf(1103515245)).add(BigInteger.valueOf(12345))
                    .mod(BigInteger.TWO.pow(31));
            return seed.divide(BigInteger.valueOf(65536)).mod(BigInteger.valueOf(of)).intValue();
        }

        int seed() {
            return seed.intValueExact();
        }
    }
}
