import java.math.BigInteger;

/** Promises 18 to 21: each sentence about what is told back that names a bound. */
public final class ToldBackBoundsTest {
    private static final Checks CHECKS = new Checks("ToldBackBoundsTest");

    private ToldBackBoundsTest() {
    }

    public static void main(String[] args) {
        ordersOfOne();
        ordersByAllMistakes();
        justTheseMistakes();
        ordersOnHisSeatNow();
        ordersFromNothing();
        tellAtBothEnds();
        allSetsOfIllOnes();
        noSuchSets();
        oneSetAlone();
        onePartIsMore();
        sickFromNothing();
        leastAndMostTimes();
        leastAndMostSeeds();
        seedsAroundTheirRest();
        drawsAroundTheirRest();
        yearsOfOneChild();
        seatsThatChangeInYears();
        yearsOfIllOnes();
        yearsAreNotLived();
        CHECKS.end();
    }

    private static void due(String what, long got, long want) {
        CHECKS.due(what, got, want);
    }

    private static int faculty(int n) {
        return n < 2 ? 1 : n * faculty(n - 1);
    }

    /** There is one order of one CHILD, in which he has no MISTAKES. */
    private static void ordersOfOne() {
        SchoolRow row = Rows.of("901111:d");
        due("orders(0, 0, 0)", row.orders(0, 0, 0), 1);
        due("orders(0, 0, 1)", row.orders(0, 0, 1), 1);
        due("orders(0, 1, 0)", row.orders(0, 1, 0), 0);
        due("orders(0, 1, 1)", row.orders(0, 1, 1), 0);
    }

    /** "mistakes (bits of CHILDREN)": from none to all; where nothing is lost they are all who sit ahead. */
    private static void ordersByAllMistakes() {
        for (int children = 1; children <= 6; children++) {
            SchoolRow row = Rows.of("001111:" + "c".repeat(children));
            for (int child = 0; child < children; child++) {
                for (int mistakes = 0; mistakes < 1 << children; mistakes++) {
                    int ahead = Integer.bitCount(mistakes);
                    boolean his = (mistakes >> child & 1) == 1;
                    int want = his ? 0 : faculty(ahead) * faculty(children - 1 - ahead);
                    String which = "(" + child + ", " + mistakes + ") of " + children;
                    due("orders" + which, row.orders(child, mistakes, 0), want);
                    due("on his seat" + which, row.orders(child, mistakes, 1), ahead == child ? want : 0);
                }
            }
        }
    }

    /** "has just told MISTAKES": not these and others, not some of these. */
    private static void justTheseMistakes() {
        SchoolRow row = Rows.of("001111:cccd");
        due("the doubter by 0", row.orders(3, 1, 0), 6);
        due("the doubter by 0 and 1", row.orders(3, 3, 0), 0);
        due("the doubter by none", row.orders(3, 0, 0), 6);
        due("a plain one by 1", row.orders(0, 2, 0), 2);
        // The doubter must have nobody or but one ahead, or he keeps a mistake from going on.
        due("a plain one by all others", row.orders(0, 14, 0), 4);
        due("a plain one by all", row.orders(0, 15, 0), 0);
    }

    /** "how many of these have him on the SEAT where he is now". */
    private static void ordersOnHisSeatNow() {
        SchoolRow row = Rows.of("001111:cccccc");
        due("the first, on seat 0", row.orders(0, 0, 1), 120);
        row.swap(0, 5);
        due("the first, on seat 5", row.orders(0, 0, 1), 0);
        due("the last, on seat 5", row.orders(0, 62, 1), 120);
        due("the other one, who has seat 0 now", row.orders(5, 0, 1), 120);
        due("the first, on any seat", row.orders(0, 0, 0), 120);
    }

    /** "(from 0 PARTS, nobody ILL, by one LESSON, as above)", whatever is so now. */
    private static void ordersFromNothing() {
        SchoolRow row = Rows.of("901111:ccc");
        for (int child = 0; child < 3; child++) {
            row.lesson(0, true);
            row.ill(child, true);
            row.tell(child, 0);
        }
        due("the last one behind both", row.orders(2, 3, 0), 2);
        due("the last one behind both, on his seat", row.orders(2, 3, 1), 2);
        row = Rows.of("901111:cccc");
        due("the fourth has no parts, so no mistakes", row.orders(3, 7, 0), 0);
        due("the first and the fourth", row.orders(3, 0, 0), 12);
    }

    /** "0, 1 (NONE: nothing any more): what was told (NONE)". */
    private static void tellAtBothEnds() {
        SchoolRow row = Rows.of("001111:cccccc");
        for (int child = 0; child < 6; child += 5) {
            due("tell nothing where nothing is told", row.tell(child, SchoolRow.NONE), SchoolRow.NONE);
            due("tell 0", row.tell(child, 0), SchoolRow.NONE);
            due("tell 0 again", row.tell(child, 0), 0);
            due("tell 1", row.tell(child, 1), 0);
            due("tell 1 again", row.tell(child, 1), 1);
            due("tell nothing any more", row.tell(child, SchoolRow.NONE), 1);
            due("what is told then", row.about(child, 4), SchoolRow.NONE);
        }
    }

    private static void sick(SchoolRow row, int sets, int sure) {
        due("sets", row.sick(0), sets);
        due("sure", row.sick(1), sure);
    }

    /** Nothing is told, so it is so by all sets, nobody and all among them. */
    private static void allSetsOfIllOnes() {
        for (int children = 1; children <= 6; children++) {
            sick(Rows.of("901111:" + "c".repeat(children)), 1 << children, 0);
        }
    }

    /** "none of them, if there are no such sets". */
    private static void noSuchSets() {
        SchoolRow row = Rows.of("901111:cccc");
        for (int child = 0; child < 4; child++) {
            row.tell(child, 1);
        }
        sick(row, 0, 0);
        row.tell(3, SchoolRow.NONE);
        sick(row, 2, 0);
        row.tell(0, 0);
        sick(row, 2, 1);
    }

    /** "SURE: all who are ILL in each of these": all of six, or just the first, or just the last. */
    private static void oneSetAlone() {
        SchoolRow row = Rows.of("001111:cccccc");
        for (int child = 0; child < 6; child++) {
            row.tell(child, 0);
        }
        sick(row, 1, 63);
        for (int child = 1; child < 6; child++) {
            row.tell(child, 1);
        }
        sick(row, 1, 1);
        row.tell(0, 1);
        sick(row, 1, 0);
        row.tell(5, 0);
        sick(row, 1, 32);
        SchoolRow one = Rows.of("901111:c");
        one.tell(0, 1);
        sick(one, 1, 0);
        one.tell(0, 0);
        sick(one, 1, 1);
    }

    /** "0 PARTS (0) or more (1)": a single part is more; 0 of one who is well is 0, too. */
    private static void onePartIsMore() {
        SchoolRow row = Rows.of("901111:cccc");
        row.tell(0, 1);
        row.tell(1, 1);
        row.tell(2, 1);
        row.tell(3, 0);
        sick(row, 2, 0);
        row.tell(2, 0);
        sick(row, 1, 4 + 8);
    }

    /** "(from 0 PARTS, not SUNG, as they sit now)": whoever is ILL now, whatever he knows. */
    private static void sickFromNothing() {
        SchoolRow row = Rows.of("901111:cccc");
        row.tell(3, 0);
        sick(row, 8 + 1, 0);
        row.lesson(0, true);
        for (int child = 0; child < 4; child++) {
            row.ill(child, true);
        }
        sick(row, 8 + 1, 0);
        row.swap(3, 0);
        sick(row, 8, 8);
    }

    private static void years(SchoolRow row, int times, int seed, int parts, int mistakes, int seedThen) {
        String which = times + " by " + seed;
        due("parts after " + which, row.years(times, seed, 0), parts);
        due("mistakes after " + which, row.years(times, seed, 1), mistakes);
        due("seed after " + which, row.years(times, seed, 2), seedThen);
    }

    private static int seedBehind(int seed, int draws) {
        BigInteger next = BigInteger.valueOf(seed);
        for (int draw = 0; draw < draws; draw++) {
            next = next.multiply(BigInteger.valueOf(1103515245)).add(BigInteger.valueOf(12345))
                    .mod(BigInteger.TWO.pow(31));
        }
        return next.intValueExact();
    }

    /** "OUTSIDE: times (1 to 60)": so many draws, and two more for each change of seats. */
    private static void leastAndMostTimes() {
        SchoolRow row = Rows.of("501111:cc");
        years(row, 1, 0, 150, 1, 12345);
        int draws = 0;
        for (int time = 0; time < 60; time++) {
            draws++;
            if (seedBehind(0, draws) / 65536 % 6 == 5) {
                draws += 2;
            }
        }
        due("seed after 60", row.years(60, 0, 2), seedBehind(0, draws));
    }

    /** "seed (0 at least)": the greatest int, too. */
    private static void leastAndMostSeeds() {
        SchoolRow row = Rows.of("501111:cc");
        due("seed behind 0", row.years(1, 0, 2), 12345);
        due("seed behind 1", row.years(1, 1, 2), 1103527590);
        // A change of seats: the first draw is 5, so there are three.
        due("seed behind the greatest", row.years(1, Integer.MAX_VALUE, 2), seedBehind(Integer.MAX_VALUE,
                seedBehind(Integer.MAX_VALUE, 1) / 65536 % 6 == 5 ? 3 : 1));
    }

    /** "its rest by 2 to the 31": 0 and the greatest one are SEEDS. */
    private static void seedsAroundTheirRest() {
        SchoolRow row = Rows.of("501111:cc");
        due("a seed of 0", row.years(1, 2088216195, 2), 0);
        due("the greatest seed", row.years(1, 230538014, 2), Integer.MAX_VALUE);
        int seed = 5;
        for (int time = 0; time < 20; time++) {
            int next = seedBehind(seed, 1);
            if (next / 65536 % 6 != 5) {
                due("the seed behind " + seed, row.years(1, seed, 2), next);
            }
            seed = next;
        }
    }

    /** "then that by 65536 (rounded down), its rest": the seeds then are just below and just at a bound. */
    private static void drawsAroundTheirRest() {
        // A lesson brings of 0 to 3: 150, 50, 0 and 100 parts; a summer takes half of the 450.
        SchoolRow row = Rows.of("551111:cc");
        for (int subject = 1; subject < 4; subject++) {
            row.lesson(subject, false);
        }
        row.wipe(1, 1);
        row.wipe(0, 3);
        due("parts now", row.count(8), 300);
        due("mistakes now", row.count(9), 2);
        years(row, 1, 2088216195, 450, 3, 0);
        years(row, 1, 2032319262, 450, 3, 65535);
        years(row, 1, 1742513795, 350, 3, 65536);
        years(row, 1, 1051108995, 400, 2, 3 * 65536);
        years(row, 1, 995212062, 400, 2, 4 * 65536 - 1);
        years(row, 1, 705406595, 150, 2, 4 * 65536);
        years(row, 1, 649509662, 150, 2, 5 * 65536 - 1);
        years(row, 1, 359704195, 300, 2, seedBehind(359704195, 3));
        years(row, 1, 303807262, 300, 2, seedBehind(303807262, 3));
        years(row, 1, 14001795, 450, 3, 6 * 65536);
        years(row, 1, 230538014, 350, 3, Integer.MAX_VALUE);
    }

    /** "two SEATS by a DRAW of how many there are each change places": there is but one. */
    private static void yearsOfOneChild() {
        SchoolRow row = Rows.of("501111:c");
        row.lesson(2, false);
        years(row, 1, 359704195, 100, 0, seedBehind(359704195, 3));
    }

    /** "two SEATS by a DRAW of how many there are each": the first and the last, or twice the same. */
    private static void seatsThatChangeInYears() {
        SchoolRow row = Rows.of("501111:cc");
        row.lesson(0, false);
        // By each of these seeds seats are changed, and then a lesson of subject 0 is given.
        years(row, 2, 116, 200, 0, seedBehind(116, 4));
        years(row, 2, 317, 200, 0, seedBehind(317, 4));
        years(row, 2, 32, 150, 1, seedBehind(32, 4));
        row = Rows.of("901111:cccccc");
        row.lesson(0, false);
        years(row, 2, 3588, 211, 1 + 2, seedBehind(3588, 4));
    }

    /** "YEARS [..] as they would be": who is ILL now learns nothing in them, but forgets. */
    private static void yearsOfIllOnes() {
        SchoolRow row = Rows.of("551111:cc");
        row.lesson(2, false);
        row.ill(0, true);
        row.ill(1, true);
        years(row, 1, 0, 150, 1, 12345);
        years(row, 1, 705406595, 75, 1, 4 * 65536);
    }

    /** "YEARS by a SEED, as they would be": nothing of them is so then. */
    private static void yearsAreNotLived() {
        SchoolRow row = Rows.of("551111:csdghc");
        row.lesson(2, false);
        long before = Rows.fingerprint(row);
        int parts = row.years(60, 77, 0);
        row.years(60, 77, 1);
        row.years(60, 77, 2);
        due("nothing has changed", Rows.fingerprint(row), before);
        due("the same years again", row.years(60, 77, 0), parts);
    }
}
