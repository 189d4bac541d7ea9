/**
 * The school upside down: one master for a row of children, and each teaches the next one what he
 * has, less some tenths, with a mistake of his own.
 */
public final class SchoolRow {
    public static final int NONE = -1, UNKNOWN = -101, OUTSIDE = -102, STATE = -103, FULL = -104;

    private static final int MOST_LETTERS = 14;
    private static final int DIGITS = 6;
    private static final int FIRST_BREATH = 2;
    private static final int FIRST_CHILD = 7;
    private static final int MOST_CHILDREN = 6;
    private static final int MOST_ORDERS = 720;
    private static final int SUBJECTS = 4;
    private static final int SONG_SETS = 1 << SUBJECTS;
    private static final int MOST_BREATH = 40;
    private static final int MASTERS_PARTS = 100;
    private static final int MOST_TIMES = 60;

    private static final int KINDS = 5;
    private static final int SISTER = 1, DOUBTER = 2, SINGER = 3, SHOUTER = 4;

    private static final int ABOUTS = 5;
    private static final int ORDER_SEATS = 10;
    private static final int COUNTS = 12;
    private static final int DIGEST_BREATH = 10;

    private final Page page;
    private final School school;
    private final Row now;
    private final Row kept;
    private final Row trial;
    private final Row best;
    private boolean keptStands;
    private boolean bestStands;
    private int schoolsRead;

    public SchoolRow() {
        page = new Page();
        school = new School();
        now = new Row(school);
        kept = new Row(school);
        trial = new Row(school);
        best = new Row(school);
    }

    // ---- the school

    public int letter(int code) {
        if (code < 32 || code > 126) {
            return OUTSIDE;
        }
        if (page.length() >= MOST_LETTERS) {
            return FULL;
        }
        page.add(code);
        return page.length();
    }

    public int blank() {
        int had = page.length();
        page.clear();
        return had;
    }

    public int fault() {
        return page.firstFault();
    }

    public int school() {
        if (!page.isSchool()) {
            return STATE;
        }
        school.readFrom(page);
        page.clear();
        now.startAfresh();
        // What was kept or found before belongs to the school that is gone.
        keptStands = false;
        bestStands = false;
        schoolsRead++;
        return school.size();
    }

    public int about(int child, int what) {
        if (!isChild(child)) {
            return UNKNOWN;
        }
        switch (what) {
            case 0:
                return school.kindNumber(child);
            case 1:
                return now.seatOf(child);
            case 2:
                return now.isIll(child) ? 1 : 0;
            case 3:
                return now.partsOf(child);
            case 4:
                return now.toldOf(child);
            default:
                return OUTSIDE;
        }
    }

    public int as(int child, int kind) {
        if (!isChild(child)) {
            return UNKNOWN;
        }
        if (kind < 0 || kind >= KINDS) {
            return OUTSIDE;
        }
        return isOfKind(school.child(child), kind) ? child : NONE;
    }

    public int seat(int seat) {
        return isChild(seat) ? now.childOn(seat) : UNKNOWN;
    }

    public int swap(int a, int b) {
        if (!isChild(a) || !isChild(b)) {
            return UNKNOWN;
        }
        now.changeSeats(now.seatOf(a), now.seatOf(b));
        return now.seatOf(b);
    }

    public int ill(int child, boolean is) {
        if (!isChild(child)) {
            return UNKNOWN;
        }
        int was = now.isIll(child) ? 1 : 0;
        now.setIll(child, is);
        return was;
    }

    // ---- lessons

    public int knows(int child, int subject, int what) {
        if (!isChild(child) || !isSubject(subject)) {
            return UNKNOWN;
        }
        if (!isEither(what)) {
            return OUTSIDE;
        }
        return what == 0 ? now.parts(child, subject) : now.mistakes(child, subject);
    }

    public int lesson(int subject, boolean sung) {
        if (!isSubject(subject)) {
            return UNKNOWN;
        }
        if (!hasSchool()) {
            return STATE;
        }
        return now.teachDown(subject, sung);
    }

    public int summer() {
        return hasSchool() ? now.passSummer() : STATE;
    }

    public int wipe(int child, int subject) {
        if (!isChild(child) || !isSubject(subject)) {
            return UNKNOWN;
        }
        int had = now.parts(child, subject);
        now.wipeSlate(child, subject);
        return had;
    }

    // ---- what would be

    public int order(int what) {
        boolean ofSeat = what >= ORDER_SEATS && what < ORDER_SEATS + MOST_CHILDREN;
        if (!isEither(what) && !ofSeat) {
            return OUTSIDE;
        }
        if (!hasSchool()) {
            return STATE;
        }
        findBestOrder();
        if (ofSeat) {
            int seat = what - ORDER_SEATS;
            return isChild(seat) ? best.childOn(seat) : NONE;
        }
        return what == 0 ? best.lastParts() : best.lastMistakes();
    }

    public int songs(int breath, int what) {
        if (breath < 0 || breath > MOST_BREATH || !isEither(what)) {
            return OUTSIDE;
        }
        if (!hasSchool()) {
            return STATE;
        }
        int songs = bestSongs(breath);
        return what == 0 ? songs : partsAfterSongs(songs);
    }

    public int asks(int child, int subject) {
        if (!isChild(child) || !isSubject(subject)) {
            return UNKNOWN;
        }
        for (int seat = now.seatOf(child) - 1; seat >= 0; seat--) {
            int other = now.childOn(seat);
            if (!now.isIll(other) && now.knowsBetter(other, child, subject)) {
                return other;
            }
        }
        return NONE;
    }

    // ---- told back

    public int orders(int child, int mistakes, int what) {
        if (!isChild(child)) {
            return UNKNOWN;
        }
        if (mistakes < 0 || mistakes >= 1 << school.size() || !isEither(what)) {
            return OUTSIDE;
        }
        return countOrders(child, mistakes, what == 1);
    }

    public int tell(int child, int got) {
        if (!isChild(child)) {
            return UNKNOWN;
        }
        if (got != NONE && !isEither(got)) {
            return OUTSIDE;
        }
        int was = now.toldOf(child);
        now.setTold(child, got);
        return was;
    }

    public int sick(int what) {
        if (!isEither(what)) {
            return OUTSIDE;
        }
        if (!hasSchool()) {
            return STATE;
        }
        int sets = 0;
        int sure = (1 << school.size()) - 1;
        trial.copyFrom(now);
        for (int ill = 0; ill < 1 << school.size(); ill++) {
            trial.setAllIll(ill);
            trial.teachFromNothing();
            if (trial.isAsTold()) {
                sets++;
                sure &= ill;
            }
        }
        if (what == 0) {
            return sets;
        }
        return sets == 0 ? 0 : sure;
    }

    public int years(int times, int seed, int what) {
        if (times < 1 || times > MOST_TIMES || seed < 0 || what < 0 || what > 2) {
            return OUTSIDE;
        }
        if (!hasSchool()) {
            return STATE;
        }
        trial.copyFrom(now);
        long seedThen = tryYears(times, seed);
        if (what == 0) {
            return trial.partsOfAll();
        }
        return what == 1 ? trial.mistakesOfAll() : (int) seedThen;
    }

    // ---- what is told of all

    public int image() {
        if (!hasSchool()) {
            return STATE;
        }
        kept.copyFrom(now);
        keptStands = true;
        return school.size();
    }

    public int restore() {
        if (!keptStands) {
            return STATE;
        }
        now.copyFrom(kept);
        return school.size();
    }

    public int count(int what) {
        if (what >= 0 && what < DIGITS) {
            return school.digit(what);
        }
        switch (what) {
            case 6:
                return school.size();
            case 7:
                return now.illOnes();
            case 8:
                return now.partsOfAll();
            case 9:
                return now.mistakesOfAll();
            case 10:
                return page.length();
            case 11:
                return schoolsRead;
            default:
                return OUTSIDE;
        }
    }

    public long digest() {
        long h = 773;
        for (int child = 0; child < school.size(); child++) {
            h = withChild(h, child);
        }
        if (hasSchool()) {
            h = with(with(h, order(0)), order(1));
            for (int seat = 0; seat < MOST_CHILDREN; seat++) {
                h = with(h, order(ORDER_SEATS + seat));
            }
            h = with(with(h, songs(DIGEST_BREATH, 0)), songs(DIGEST_BREATH, 1));
            h = with(with(h, sick(0)), sick(1));
        }
        for (int place = 0; place < page.length(); place++) {
            h = with(h, page.letterAt(place));
        }
        for (int what = 0; what < COUNTS; what++) {
            h = with(h, count(what));
        }
        return h;
    }

    private long withChild(long before, int child) {
        long h = before;
        for (int what = 0; what < ABOUTS; what++) {
            h = with(h, about(child, what));
        }
        for (int subject = 0; subject < SUBJECTS; subject++) {
            h = with(h, knows(child, subject, 0));
            h = with(h, knows(child, subject, 1));
            h = with(h, asks(child, subject));
        }
        return h;
    }

    private static long with(long before, long number) {
        return 31 * before + number;
    }

    // ---- numbers that name something

    private boolean hasSchool() {
        return school.size() > 0;
    }

    /** There are as many seats as children, so this answers for a seat's number too. */
    private boolean isChild(int number) {
        return number >= 0 && number < school.size();
    }

    private static boolean isSubject(int number) {
        return number >= 0 && number < SUBJECTS;
    }

    private static boolean isEither(int what) {
        return what == 0 || what == 1;
    }

    private static boolean isOfKind(Child child, int kind) {
        switch (kind) {
            case SISTER:
                return child instanceof Sister;
            case DOUBTER:
                return child instanceof Doubter;
            case SINGER:
                return child instanceof Singer;
            case SHOUTER:
                return child instanceof Shouter;
            default:
                return true;
        }
    }

    // ---- what is tried, in rows beside the one that sits now

    /** The best order hangs on nothing but the school, so it is looked for once a school. */
    private void findBestOrder() {
        if (bestStands) {
            return;
        }
        trial.startAfresh();
        for (int tried = 0; tried < MOST_ORDERS; tried++) {
            trial.teachFromNothing();
            // Orders come by numbers, so of like ones the first that is met stays.
            if (tried == 0 || trial.endsBetterThan(best)) {
                best.copyFrom(trial);
            }
            if (!trial.sitInNextOrder()) {
                break;
            }
        }
        bestStands = true;
    }

    private int countOrders(int child, int mistakes, boolean onHisSeat) {
        int found = 0;
        int hisSeat = now.seatOf(child);
        trial.startAfresh();
        for (int tried = 0; tried < MOST_ORDERS; tried++) {
            trial.teachFromNothing();
            boolean counts = !onHisSeat || trial.childOn(hisSeat) == child;
            if (counts && trial.mistakes(child, 0) == mistakes) {
                found++;
            }
            if (!trial.sitInNextOrder()) {
                break;
            }
        }
        return found;
    }

    /** Nothing sung takes no breath, so there is always a set of songs that may be. */
    private int bestSongs(int breath) {
        int songs = 0;
        int most = partsAfterSongs(0);
        for (int tried = 1; tried < SONG_SETS; tried++) {
            if (breathOf(tried) > breath) {
                continue;
            }
            int parts = partsAfterSongs(tried);
            if (parts > most) {
                songs = tried;
                most = parts;
            }
        }
        return songs;
    }

    private int breathOf(int songs) {
        int breath = 0;
        for (int subject = 0; subject < SUBJECTS; subject++) {
            breath += isIn(songs, subject) ? school.digit(FIRST_BREATH + subject) : 0;
        }
        return breath;
    }

    private int partsAfterSongs(int songs) {
        trial.copyFrom(now);
        for (int subject = 0; subject < SUBJECTS; subject++) {
            trial.teachDown(subject, isIn(songs, subject));
        }
        return trial.partsOfAll();
    }

    private static boolean isIn(int set, int member) {
        return (set >> member & 1) == 1;
    }

    /** Lets years go by in the trial row; answers the seed then. */
    private long tryYears(int times, long seedBefore) {
        long seed = seedBefore;
        for (int time = 0; time < times; time++) {
            seed = nextSeed(seed);
            int event = draw(seed, SUBJECTS + 2);
            if (event < SUBJECTS) {
                trial.teachDown(event, false);
            } else if (event == SUBJECTS) {
                trial.passSummer();
            } else {
                long next = nextSeed(seed);
                seed = nextSeed(next);
                trial.changeSeats(draw(next, school.size()), draw(seed, school.size()));
            }
        }
        return seed;
    }

    private static long nextSeed(long seed) {
        return (1103515245L * seed + 12345L) & 0x7fffffffL;
    }

    private static int draw(long seed, int of) {
        return of > 0 ? (int) (seed / 65536 % of) : 0;
    }

    /** Numbers in a row that is never read or written beyond its ends. */
    private static final class Cells {
        private final int[] numbers;

        Cells(int length) {
            numbers = new int[length < 0 ? 0 : length];
        }

        int at(int place) {
            return place >= 0 && place < numbers.length ? numbers[place] : 0;
        }

        void put(int place, int number) {
            if (place >= 0 && place < numbers.length) {
                numbers[place] = number;
            }
        }

        void putAll(int number) {
            for (int place = 0; place < numbers.length; place++) {
                numbers[place] = number;
            }
        }

        void copyFrom(Cells other) {
            for (int place = 0; place < numbers.length; place++) {
                numbers[place] = other.at(place);
            }
        }

        int sum() {
            int sum = 0;
            for (int place = 0; place < numbers.length; place++) {
                sum += numbers[place];
            }
            return sum;
        }

        int sumOfBits() {
            int sum = 0;
            for (int place = 0; place < numbers.length; place++) {
                sum += Integer.bitCount(numbers[place]);
            }
            return sum;
        }
    }

    /** The page: what is written down before it is read as a school. */
    private static final class Page {
        private final Cells letters = new Cells(MOST_LETTERS);
        private int length;

        int length() {
            return length;
        }

        int letterAt(int place) {
            return letters.at(place);
        }

        void add(int code) {
            if (length < MOST_LETTERS) {
                letters.put(length, code);
                length++;
            }
        }

        void clear() {
            length = 0;
        }

        boolean isSchool() {
            return length > FIRST_CHILD && firstFault() == length;
        }

        int firstFault() {
            for (int place = 0; place < length; place++) {
                if (!mayStand(letters.at(place), place)) {
                    return place;
                }
            }
            return length;
        }

        private static boolean mayStand(int letter, int place) {
            if (place < FIRST_BREATH) {
                return letter >= '0' && letter <= '9';
            }
            if (place < DIGITS) {
                return letter >= '1' && letter <= '9';
            }
            if (place < FIRST_CHILD) {
                return letter == ':';
            }
            return place < FIRST_CHILD + MOST_CHILDREN && School.kindBy(letter) != NONE;
        }
    }

    /** What a school's text tells: its digits, and the kind of each child. */
    private static final class School {
        private final Cells digits = new Cells(DIGITS);
        private final Cells kindNumbers = new Cells(MOST_CHILDREN);
        // One of each kind serves all: a child remembers nothing, the row does.
        private final Child plainChild = new Child();
        private final Child sister = new Sister();
        private final Child doubter = new Doubter();
        private final Child singer = new Singer();
        private final Child shouter = new Shouter();
        private int size;

        void readFrom(Page page) {
            for (int place = 0; place < DIGITS; place++) {
                digits.put(place, page.letterAt(place) - '0');
            }
            size = 0;
            for (int place = FIRST_CHILD; place < page.length(); place++) {
                kindNumbers.put(size, kindBy(page.letterAt(place)));
                size++;
            }
        }

        static int kindBy(int letter) {
            switch (letter) {
                case 'c':
                    return 0;
                case 's':
                    return SISTER;
                case 'd':
                    return DOUBTER;
                case 'g':
                    return SINGER;
                case 'h':
                    return SHOUTER;
                default:
                    return NONE;
            }
        }

        int size() {
            return size;
        }

        int digit(int place) {
            return digits.at(place);
        }

        int tenthsLost() {
            return digits.at(0);
        }

        int tenthsForgotten() {
            return digits.at(1);
        }

        int kindNumber(int child) {
            return kindNumbers.at(child);
        }

        Child child(int number) {
            switch (kindNumbers.at(number)) {
                case SISTER:
                    return sister;
                case DOUBTER:
                    return doubter;
                case SINGER:
                    return singer;
                case SHOUTER:
                    return shouter;
                default:
                    return plainChild;
            }
        }
    }

    /** How a child of any kind teaches, learns and forgets. */
    private static class Child {
        /** How many of his parts are lost when he teaches. */
        int losesOf(int parts, int tenths) {
            return roundedUpTenths(parts, tenths);
        }

        /** The mistakes that he gives: his own one is no bit where a lesson is sung. */
        int givesOf(int mistakes, int ownOne) {
            return mistakes | ownOne;
        }

        /** Which of the mistakes that he is given he takes for true. */
        int takesOf(int mistakes, int teachersOne) {
            return mistakes;
        }

        /** How many of his parts are gone after a summer. */
        int forgetsOf(int parts, int tenths) {
            return roundedUpTenths(parts, tenths);
        }

        private static int roundedUpTenths(int parts, int tenths) {
            return (parts * tenths + 9) / 10;
        }
    }

    private static final class Sister extends Child {
        int givesOf(int mistakes, int ownOne) {
            return 0;
        }
    }

    private static final class Doubter extends Child {
        int takesOf(int mistakes, int teachersOne) {
            return mistakes & teachersOne;
        }
    }

    private static class Singer extends Child {
        int losesOf(int parts, int tenths) {
            return 0;
        }
    }

    private static final class Shouter extends Singer {
        int forgetsOf(int parts, int tenths) {
            return 0;
        }
    }

    /** All that changes in a school, and that an image keeps. */
    private static final class Row {
        private final School school;
        private final Cells seats = new Cells(MOST_CHILDREN);
        private final Cells parts = new Cells(MOST_CHILDREN * SUBJECTS);
        private final Cells mistakes = new Cells(MOST_CHILDREN * SUBJECTS);
        private final Cells told = new Cells(MOST_CHILDREN);
        private int ill;

        Row(School school) {
            this.school = school;
        }

        void startAfresh() {
            for (int seat = 0; seat < MOST_CHILDREN; seat++) {
                seats.put(seat, seat);
            }
            parts.putAll(0);
            mistakes.putAll(0);
            told.putAll(NONE);
            ill = 0;
        }

        void copyFrom(Row other) {
            seats.copyFrom(other.seats);
            parts.copyFrom(other.parts);
            mistakes.copyFrom(other.mistakes);
            told.copyFrom(other.told);
            ill = other.ill;
        }

        int childOn(int seat) {
            return seats.at(seat);
        }

        int seatOf(int child) {
            for (int seat = 0; seat < school.size(); seat++) {
                if (seats.at(seat) == child) {
                    return seat;
                }
            }
            return NONE;
        }

        void changeSeats(int a, int b) {
            int child = seats.at(a);
            seats.put(a, seats.at(b));
            seats.put(b, child);
        }

        /** The next order by numbers; false behind the last one. */
        boolean sitInNextOrder() {
            int last = school.size() - 1;
            int low = last - 1;
            while (low >= 0 && seats.at(low) > seats.at(low + 1)) {
                low--;
            }
            if (low < 0) {
                return false;
            }
            int high = last;
            while (high > low && seats.at(high) < seats.at(low)) {
                high--;
            }
            changeSeats(low, high);
            for (int a = low + 1, b = last; a < b; a++, b--) {
                changeSeats(a, b);
            }
            return true;
        }

        boolean isIll(int child) {
            return isIn(ill, child);
        }

        void setIll(int child, boolean is) {
            ill = is ? ill | 1 << child : ill & ~(1 << child);
        }

        void setAllIll(int children) {
            ill = children;
        }

        int illOnes() {
            return Integer.bitCount(ill);
        }

        int toldOf(int child) {
            return told.at(child);
        }

        void setTold(int child, int got) {
            told.put(child, got);
        }

        /** Whether what is told fits what all have of subject 0. */
        boolean isAsTold() {
            for (int child = 0; child < school.size(); child++) {
                int got = parts(child, 0) > 0 ? 1 : 0;
                if (told.at(child) != NONE && told.at(child) != got) {
                    return false;
                }
            }
            return true;
        }

        int parts(int child, int subject) {
            return parts.at(slateOf(child, subject));
        }

        int mistakes(int child, int subject) {
            return mistakes.at(slateOf(child, subject));
        }

        int partsOf(int child) {
            int sum = 0;
            for (int subject = 0; subject < SUBJECTS; subject++) {
                sum += parts(child, subject);
            }
            return sum;
        }

        int partsOfAll() {
            return parts.sum();
        }

        int mistakesOfAll() {
            return mistakes.sumOfBits();
        }

        void wipeSlate(int child, int subject) {
            parts.put(slateOf(child, subject), 0);
            mistakes.put(slateOf(child, subject), 0);
        }

        boolean knowsBetter(int one, int other, int subject) {
            return isMoreWorth(parts(one, subject), mistakes(one, subject),
                    parts(other, subject), mistakes(other, subject));
        }

        int lastParts() {
            return parts(lastChild(), 0);
        }

        int lastMistakes() {
            return Integer.bitCount(mistakes(lastChild(), 0));
        }

        boolean endsBetterThan(Row other) {
            return isMoreWorth(lastParts(), mistakes(lastChild(), 0),
                    other.lastParts(), other.mistakes(other.lastChild(), 0));
        }

        private int lastChild() {
            return seats.at(school.size() - 1);
        }

        private static boolean isMoreWorth(int parts, int mistakes, int otherParts, int otherMistakes) {
            return parts > otherParts || parts == otherParts
                    && Integer.bitCount(mistakes) < Integer.bitCount(otherMistakes);
        }

        private static int slateOf(int child, int subject) {
            return child * SUBJECTS + subject;
        }

        /** One lesson from 0 parts; any subject would do, all trials take subject 0. */
        void teachFromNothing() {
            for (int child = 0; child < school.size(); child++) {
                wipeSlate(child, 0);
            }
            teachDown(0, false);
        }

        /** A lesson down the row; answers how many learn something by it. */
        int teachDown(int subject, boolean sung) {
            int learners = 0;
            int givenParts = MASTERS_PARTS;
            int givenMistakes = 0;
            int teachersOne = 0;
            for (int seat = 0; seat < school.size(); seat++) {
                int number = seats.at(seat);
                if (isIll(number)) {
                    continue;
                }
                Child child = school.child(number);
                int slate = slateOf(number, subject);
                if (givenParts > parts.at(slate)) {
                    parts.put(slate, givenParts);
                    mistakes.put(slate, child.takesOf(givenMistakes, teachersOne));
                    learners++;
                }
                int has = parts.at(slate);
                teachersOne = 1 << number;
                givenParts = sung ? has : has - child.losesOf(has, school.tenthsLost());
                givenMistakes = child.givesOf(mistakes.at(slate), sung ? 0 : teachersOne);
            }
            return learners;
        }

        /** A summer; answers how many parts are forgotten together. */
        int passSummer() {
            int forgotten = 0;
            for (int number = 0; number < school.size(); number++) {
                Child child = school.child(number);
                for (int subject = 0; subject < SUBJECTS; subject++) {
                    int slate = slateOf(number, subject);
                    int lost = child.forgetsOf(parts.at(slate), school.tenthsForgotten());
                    parts.put(slate, parts.at(slate) - lost);
                    if (parts.at(slate) == 0) {
                        mistakes.put(slate, 0);
                    }
                    forgotten += lost;
                }
            }
            return forgotten;
        }
    }
}
