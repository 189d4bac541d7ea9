import java.lang.reflect.Method;
import java.util.Arrays;
import java.util.Random;

/** Runs of calls drawn by fixed seeds: the program must answer what PlainSchool answers. */
public final class RandomRunsTest {
    private static final Checks CHECKS = new Checks("RandomRunsTest");
    private static final int[] STRANGE =
        {Integer.MIN_VALUE, -101, -2, -1, 2, 3, 4, 5, 6, 7, 8, 16, 41, 61, 64, 1 << 30, Integer.MAX_VALUE};
    // A call is drawn as often as it stands here; the dear ones stand here least.
    private static final String[] CALLS = (
        "letter letter blank fault about about as seat swap swap swap ill ill ill "
        + "knows knows lesson lesson lesson lesson lesson lesson summer wipe wipe songs songs asks asks "
        + "tell tell tell sick sick years years image restore count count school").split(" ");
    private static final String[] DEAR_CALLS = {"order", "orders", "orders", "digest"};

    private final Random random;
    private final SchoolRow row = new SchoolRow();
    private final PlainSchool plain = new PlainSchool();
    private final StringBuilder run = new StringBuilder();

    private RandomRunsTest(long seed) {
        random = new Random(seed);
    }

    public static void main(String[] args) throws ReflectiveOperationException {
        for (long seed = 0; seed < 300; seed++) {
            new RandomRunsTest(seed).go();
        }
        CHECKS.end();
    }

    private void go() throws ReflectiveOperationException {
        for (int call = 0; call < 300; call++) {
            if (random.nextInt(random.nextBoolean() ? 30 : 150) == 0) {
                writeSchool();
            }
            boolean dear = random.nextInt(25) == 0;
            String[] names = dear ? DEAR_CALLS : CALLS;
            call(names[random.nextInt(names.length)]);
        }
        call("digest");
    }

    private void writeSchool() throws ReflectiveOperationException {
        call("blank");
        int children = 1 + random.nextInt(6);
        StringBuilder text = new StringBuilder();
        for (int place = 0; place < 7 + children; place++) {
            text.append(letterFor(place));
        }
        for (char letter : text.toString().toCharArray()) {
            same("letter", (int) letter);
        }
        call("school");
    }

    private char letterFor(int place) {
        if (random.nextInt(100) == 0) {
            return "09:cx".charAt(random.nextInt(5));
        }
        if (place < 6) {
            return (char) ('0' + random.nextInt(place < 2 ? 10 : 9) + (place < 2 ? 0 : 1));
        }
        return place == 6 ? ':' : "csdgh".charAt(random.nextInt(5));
    }

    private void call(String name) throws ReflectiveOperationException {
        same(name, arguments(name));
    }

    private Object[] arguments(String name) {
        switch (name) {
            case "letter":
                return new Object[] {number(30 + random.nextInt(100))};
            case "about":
            case "as":
                return new Object[] {child(), number(random.nextInt(5))};
            case "seat":
                return new Object[] {child()};
            case "swap":
                return new Object[] {child(), child()};
            case "ill":
                return new Object[] {child(), random.nextInt(3) == 0};
            case "knows":
                return new Object[] {child(), subject(), number(random.nextInt(2))};
            case "lesson":
                return new Object[] {subject(), random.nextInt(4) == 0};
            case "wipe":
            case "asks":
                return new Object[] {child(), subject()};
            case "order":
                return new Object[] {number(random.nextInt(3) == 0 ? random.nextInt(2) : 9 + random.nextInt(8))};
            case "songs":
                return new Object[] {number(random.nextInt(41)), number(random.nextInt(2))};
            case "orders":
                return new Object[] {child(), number(random.nextInt(4) == 0 ? random.nextInt(64)
                        : 1 << random.nextInt(6)), number(random.nextInt(2))};
            case "tell":
                return new Object[] {child(), number(random.nextInt(3) - 1)};
            case "sick":
                return new Object[] {number(random.nextInt(2))};
            case "years":
                return new Object[] {number(1 + random.nextInt(60)), number(random.nextInt() & Integer.MAX_VALUE),
                    number(random.nextInt(3))};
            case "count":
                return new Object[] {number(random.nextInt(12))};
            default:
                return new Object[0];
        }
    }

    private int child() {
        return number(random.nextInt(random.nextInt(3) == 0 ? 6 : 3));
    }

    private int subject() {
        return number(random.nextInt(random.nextBoolean() ? 4 : 2));
    }

    /** Most often just that number, at times a strange one. */
    private int number(int ordinary) {
        return random.nextInt(40) == 0 ? STRANGE[random.nextInt(STRANGE.length)] : ordinary;
    }

    private void same(String name, Object... arguments) throws ReflectiveOperationException {
        Method ofRow = named(SchoolRow.class, name);
        Method ofPlain = named(PlainSchool.class, name);
        long got = ((Number) ofRow.invoke(row, arguments)).longValue();
        long want = ((Number) ofPlain.invoke(plain, arguments)).longValue();
        run.append(' ').append(name).append(Arrays.toString(arguments));
        CHECKS.due(got == want ? "" : run.toString(), got, want);
    }

    private static Method named(Class<?> type, String name) {
        return Arrays.stream(type.getMethods()).filter(m -> m.getName().equals(name)).findFirst().orElseThrow();
    }
}
