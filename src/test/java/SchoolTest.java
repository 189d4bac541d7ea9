/** Promises 1 to 10: the school. */
public final class SchoolTest {
    private static final Checks CHECKS = new Checks("SchoolTest");

    private SchoolTest() {
    }

    public static void main(String[] args) {
        constants();
        aNewObject();
        letters();
        blankPage();
        faults();
        aSchoolIsRead();
        anotherSchoolIsRead();
        aboutChildren();
        childrenTakenAsKinds();
        seats();
        swaps();
        illOnes();
        CHECKS.end();
    }

    private static void due(String what, long got, long want) {
        CHECKS.due(what, got, want);
    }

    private static void constants() {
        due("NONE", SchoolRow.NONE, -1);
        due("UNKNOWN", SchoolRow.UNKNOWN, -101);
        due("OUTSIDE", SchoolRow.OUTSIDE, -102);
        due("STATE", SchoolRow.STATE, -103);
        due("FULL", SchoolRow.FULL, -104);
    }

    private static void aNewObject() {
        SchoolRow row = new SchoolRow();
        for (int what = 0; what <= 11; what++) {
            due("a new object's count " + what, row.count(what), 0);
        }
        due("fault() of no page", row.fault(), 0);
        due("school() of no page", row.school(), SchoolRow.STATE);
        due("about() of nobody", row.about(0, 0), SchoolRow.UNKNOWN);
        due("as() of nobody", row.as(0, 0), SchoolRow.UNKNOWN);
        due("seat() of nobody", row.seat(0), SchoolRow.UNKNOWN);
        due("swap() of nobody", row.swap(0, 0), SchoolRow.UNKNOWN);
        due("ill() of nobody", row.ill(0, true), SchoolRow.UNKNOWN);
        due("knows() of nobody", row.knows(0, 0, 0), SchoolRow.UNKNOWN);
        due("wipe() of nobody", row.wipe(0, 0), SchoolRow.UNKNOWN);
        due("asks() of nobody", row.asks(0, 0), SchoolRow.UNKNOWN);
        due("orders() of nobody", row.orders(0, 0, 0), SchoolRow.UNKNOWN);
        due("tell() of nobody", row.tell(0, 0), SchoolRow.UNKNOWN);
        due("lesson() without a school", row.lesson(0, false), SchoolRow.STATE);
        due("summer() without a school", row.summer(), SchoolRow.STATE);
        due("order() without a school", row.order(0), SchoolRow.STATE);
        due("songs() without a school", row.songs(0, 0), SchoolRow.STATE);
        due("sick() without a school", row.sick(0), SchoolRow.STATE);
        due("years() without a school", row.years(1, 0, 0), SchoolRow.STATE);
        due("image() without a school", row.image(), SchoolRow.STATE);
        due("restore() without a school", row.restore(), SchoolRow.STATE);
    }

    private static void letters() {
        SchoolRow row = new SchoolRow();
        due("letter(31)", row.letter(31), SchoolRow.OUTSIDE);
        due("letter(127)", row.letter(127), SchoolRow.OUTSIDE);
        due("letter(-1)", row.letter(-1), SchoolRow.OUTSIDE);
        due("letter(MIN)", row.letter(Integer.MIN_VALUE), SchoolRow.OUTSIDE);
        due("letter(MAX)", row.letter(Integer.MAX_VALUE), SchoolRow.OUTSIDE);
        due("refused letters", row.count(10), 0);
        due("letter(32)", row.letter(32), 1);
        due("letter(126)", row.letter(126), 2);
        for (int n = 3; n <= 14; n++) {
            due("letter " + n, row.letter('c'), n);
        }
        due("a letter above 14", row.letter('c'), SchoolRow.FULL);
        due("a wrong letter above 14", row.letter(31), SchoolRow.OUTSIDE);
        due("a full page", row.count(10), 14);
    }

    private static void blankPage() {
        SchoolRow row = Rows.of("121111:cs");
        due("blank() of no page", row.blank(), 0);
        Rows.write(row, "19x");
        due("blank() of three", row.blank(), 3);
        due("blank() again", row.blank(), 0);
        due("letters after blank()", row.count(10), 0);
        due("children after blank()", row.count(6), 2);
        due("the next letter", row.letter('0'), 1);
    }

    private static void faults() {
        due("fault of a whole text", Rows.withPage("001111:csdghc").fault(), 13);
        due("fault of a short text", Rows.withPage("0011").fault(), 4);
        due("fault of no LOSS", Rows.withPage("x").fault(), 0);
        due("fault of a LOSS below 0", Rows.withPage("/").fault(), 0);
        due("fault of a LOSS above 9", Rows.withPage(":").fault(), 0);
        due("fault of FORGET", Rows.withPage("9c").fault(), 1);
        due("greatest FORGET", Rows.withPage("99").fault(), 2);
        for (int place = 2; place < 6; place++) {
            String ahead = "991919".substring(0, place);
            due("BREATH 0 on " + place, Rows.withPage(ahead + "0").fault(), place);
            due("BREATH : on " + place, Rows.withPage(ahead + ":").fault(), place);
            due("BREATH 9 on " + place, Rows.withPage(ahead + "9").fault(), place + 1);
            due("BREATH 1 on " + place, Rows.withPage(ahead + "1").fault(), place + 1);
        }
        due("fault of no colon", Rows.withPage("001111c").fault(), 6);
        due("fault of a digit for the colon", Rows.withPage("0011111").fault(), 6);
        due("fault of a strange kind", Rows.withPage("001111:a").fault(), 7);
        due("fault of a great letter", Rows.withPage("001111:cC").fault(), 8);
        due("fault of a second colon", Rows.withPage("001111::").fault(), 7);
        due("fault of a seventh child", Rows.withPage("001111:cccccch").fault(), 13);
        due("the first of two faults", Rows.withPage("0x11x1").fault(), 1);
        for (char kind : "csdgh".toCharArray()) {
            due("kind " + kind, Rows.withPage("001111:" + kind).fault(), 8);
        }
    }

    private static void aSchoolIsRead() {
        for (String none : new String[] {"", "0", "00111", "001111", "001111:", "001111:x",
                "001111:ccccccc", "001011:c", "0011111c", "x01111:c", "001111:c1"}) {
            SchoolRow row = Rows.withPage(none);
            due("school() of '" + none + "'", row.school(), SchoolRow.STATE);
            due("the page then of '" + none + "'", row.count(10), none.length());
            due("schools read then of '" + none + "'", row.count(11), 0);
        }
        SchoolRow row = Rows.withPage("371234:csdghc");
        due("school() of six", row.school(), 6);
        due("LOSS", row.count(0), 3);
        due("FORGET", row.count(1), 7);
        due("BREATH of 0", row.count(2), 1);
        due("BREATH of 3", row.count(5), 4);
        due("the page is empty then", row.count(10), 0);
        due("schools read", row.count(11), 1);
        due("school() of one", Rows.withPage("001111:g").school(), 1);
    }

    private static void anotherSchoolIsRead() {
        SchoolRow row = Rows.of("371234:csdgh");
        row.lesson(1, false);
        row.ill(0, true);
        row.tell(0, 1);
        row.swap(0, 4);
        due("best order of the old school", row.order(14), 2);
        Rows.write(row, "12");
        long before = Rows.fingerprint(row);
        due("school() of no school", row.school(), SchoolRow.STATE);
        due("the old school stands", Rows.fingerprint(row), before);
        Rows.write(row, "2111:dgc");
        due("school() of another one", row.school(), 3);
        for (int child = 0; child < 3; child++) {
            due("seat of " + child, row.about(child, 1), child);
            due("ill of " + child, row.about(child, 2), 0);
            due("parts of " + child, row.about(child, 3), 0);
            due("told of " + child, row.about(child, 4), SchoolRow.NONE);
        }
        due("mistakes", row.count(9), 0);
        due("kind of 0", row.about(0, 0), 2);
        due("a child that is gone", row.about(3, 0), SchoolRow.UNKNOWN);
        due("LOSS of another one", row.count(0), 1);
        due("BREATH of another one", row.count(2), 2);
        due("best order of another one", row.order(13), SchoolRow.NONE);
        due("schools read", row.count(11), 2);
    }

    private static void aboutChildren() {
        SchoolRow row = Rows.of("501111:csdgh");
        for (int child = 0; child < 5; child++) {
            due("kind of " + child, row.about(child, 0), child);
            due("seat of " + child, row.about(child, 1), child);
        }
        row.swap(0, 4);
        row.ill(2, true);
        row.lesson(0, false);
        row.lesson(3, true);
        row.tell(1, 0);
        row.tell(2, 1);
        due("seat of 0 then", row.about(0, 1), 4);
        due("seat of 4 then", row.about(4, 1), 0);
        due("an ill one", row.about(2, 2), 1);
        due("one who is not ill", row.about(1, 2), 0);
        due("parts of the first", row.about(4, 3), 200);
        due("parts of the second", row.about(1, 3), 200);
        due("parts of an ill one", row.about(2, 3), 0);
        due("parts of the last", row.about(0, 3), 150);
        due("told 0", row.about(1, 4), 0);
        due("told 1", row.about(2, 4), 1);
        due("nothing told", row.about(0, 4), SchoolRow.NONE);
        due("about(-1, 0)", row.about(-1, 0), SchoolRow.UNKNOWN);
        due("about(5, 0)", row.about(5, 0), SchoolRow.UNKNOWN);
        due("about(5, 5)", row.about(5, 5), SchoolRow.UNKNOWN);
        due("about(0, 5)", row.about(0, 5), SchoolRow.OUTSIDE);
        due("about(0, -1)", row.about(0, -1), SchoolRow.OUTSIDE);
    }

    private static void childrenTakenAsKinds() {
        SchoolRow row = Rows.of("501111:csdgh");
        for (int child = 0; child < 5; child++) {
            for (int kind = 0; kind < 5; kind++) {
                boolean is = kind == 0 || kind == child || kind == 3 && child == 4;
                due("as(" + child + ", " + kind + ")", row.as(child, kind), is ? child : SchoolRow.NONE);
            }
        }
        due("as(5, 0)", row.as(5, 0), SchoolRow.UNKNOWN);
        due("as(-1, 9)", row.as(-1, 9), SchoolRow.UNKNOWN);
        due("as(0, 5)", row.as(0, 5), SchoolRow.OUTSIDE);
        due("as(0, -1)", row.as(0, -1), SchoolRow.OUTSIDE);
    }

    private static void seats() {
        SchoolRow row = Rows.of("501111:csd");
        row.swap(0, 1);
        due("seat(0)", row.seat(0), 1);
        due("seat(1)", row.seat(1), 0);
        due("seat(2)", row.seat(2), 2);
        due("seat(3)", row.seat(3), SchoolRow.UNKNOWN);
        due("seat(-1)", row.seat(-1), SchoolRow.UNKNOWN);
    }

    private static void swaps() {
        SchoolRow row = Rows.of("501111:csdg");
        due("swap(0, 3)", row.swap(0, 3), 0);
        due("swap(0, 1)", row.swap(0, 1), 3);
        due("swap(2, 2)", row.swap(2, 2), 2);
        int[] want = {3, 0, 2, 1};
        for (int seat = 0; seat < 4; seat++) {
            due("who sits on " + seat, row.seat(seat), want[seat]);
        }
        long before = Rows.fingerprint(row);
        due("swap(4, 0)", row.swap(4, 0), SchoolRow.UNKNOWN);
        due("swap(0, 4)", row.swap(0, 4), SchoolRow.UNKNOWN);
        due("swap(-1, 0)", row.swap(-1, 0), SchoolRow.UNKNOWN);
        due("swap(0, -1)", row.swap(0, -1), SchoolRow.UNKNOWN);
        due("refused swaps", Rows.fingerprint(row), before);
    }

    private static void illOnes() {
        SchoolRow row = Rows.of("501111:csdg");
        due("ill at first", row.ill(1, true), 0);
        due("ill again", row.ill(1, true), 1);
        due("another one ill", row.ill(3, true), 0);
        due("ill ones", row.count(7), 2);
        due("no more ill", row.ill(1, false), 1);
        due("no more ill again", row.ill(1, false), 0);
        due("ill ones then", row.count(7), 1);
        due("the other one still ill", row.about(3, 2), 1);
        due("ill(4)", row.ill(4, true), SchoolRow.UNKNOWN);
        due("ill(-1)", row.ill(-1, true), SchoolRow.UNKNOWN);
        due("ill ones after refusals", row.count(7), 1);
    }
}
