/** Makes rows for the tests. */
final class Rows {
    private Rows() {
    }

    static SchoolRow withPage(String text) {
        SchoolRow row = new SchoolRow();
        write(row, text);
        return row;
    }

    static SchoolRow of(String text) {
        SchoolRow row = withPage(text);
        read(row);
        return row;
    }

    static void write(SchoolRow row, String text) {
        for (int i = 0; i < text.length(); i++) {
            row.letter(text.charAt(i));
        }
    }

    static void read(SchoolRow row) {
        if (row.school() < 1) {
            throw new IllegalStateException("a test's school is none");
        }
    }

    /** All that can be asked without changing anything, in one number. */
    static long fingerprint(SchoolRow row) {
        return row.digest();
    }

    /** The fingerprint and what an image holds, which only a restore tells: the row is spent by it. */
    static long lastFingerprint(SchoolRow row) {
        long before = 31 * row.digest() + row.fault();
        return 31 * (31 * before + row.restore()) + row.digest();
    }
}
