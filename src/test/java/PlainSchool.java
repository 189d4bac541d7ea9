import java.util.ArrayList;
import java.util.List;
import java.util.TreeSet;

/**
 * The document once more, written in another way than the program: with lists, sets and recursion.
 * Its answers are held against the program's.
 */
public final class PlainSchool {
    private static final int NONE = -1, UNKNOWN = -101, OUTSIDE = -102, STATE = -103, FULL = -104;

    private StringBuilder page = new StringBuilder();
    private String text = "";
    private Room now = new Room(0);
    private Room image;
    private int read;

    /** What one subject is to one child. */
    private static final class Slate {
        int parts;
        TreeSet<Integer> mistakes = new TreeSet<>();
    }

    /** A row with its slates. */
    private static final class Room {
        final List<Integer> seats = new ArrayList<>();
        final List<List<Slate>> slates = new ArrayList<>();
        final TreeSet<Integer> ill = new TreeSet<>();
        final List<Integer> told = new ArrayList<>();

        Room(int children) {
            for (int child = 0; child < children; child++) {
                seats.add(child);
                told.add(NONE);
                List<Slate> own = new ArrayList<>();
                for (int subject = 0; subject < 4; subject++) {
                    own.add(new Slate());
                }
                slates.add(own);
            }
        }

        Room copy() {
            Room copy = new Room(seats.size());
            for (int child = 0; child < seats.size(); child++) {
                copy.seats.set(child, seats.get(child));
                copy.told.set(child, told.get(child));
                for (int subject = 0; subject < 4; subject++) {
                    Slate own = slates.get(child).get(subject);
                    copy.slates.get(child).get(subject).parts = own.parts;
                    copy.slates.get(child).get(subject).mistakes.addAll(own.mistakes);
                }
            }
            copy.ill.addAll(ill);
            return copy;
        }

        Slate slate(int child, int subject) {
            return slates.get(child).get(subject);
        }

        int parts() {
            return slates.stream().flatMap(List::stream).mapToInt(s -> s.parts).sum();
        }

        int mistakes() {
            return slates.stream().flatMap(List::stream).mapToInt(s -> s.mistakes.size()).sum();
        }
    }

    private int loss() {
        return text.charAt(0) - '0';
    }

    private char kind(int child) {
        return text.charAt(7 + child);
    }

    private int children() {
        return now.seats.size();
    }

    private boolean child(int number) {
        return number >= 0 && number < children();
    }

    private static boolean subject(int number) {
        return number >= 0 && number <= 3;
    }

    private static int less(int parts, int tenths) {
        int tenthsLeft = parts * (10 - tenths);
        return tenthsLeft / 10;
    }

    private static int bits(Iterable<Integer> set) {
        int bits = 0;
        for (int member : set) {
            bits += 1 << member;
        }
        return bits;
    }

    public int letter(int code) {
        if (code < 32 || code > 126) {
            return OUTSIDE;
        }
        if (page.length() == 14) {
            return FULL;
        }
        return page.append((char) code).length();
    }

    public int blank() {
        int had = page.length();
        page = new StringBuilder();
        return had;
    }

    public int fault() {
        int place = 0;
        while (place < page.length() && startsSchool(page.substring(0, place + 1))) {
            place++;
        }
        return place;
    }

    private static boolean startsSchool(String start) {
        String whole = "001111:c";
        String filled = start.length() < 8 ? start + whole.substring(start.length()) : start;
        return filled.matches("[0-9]{2}[1-9]{4}:[csdgh]{1,6}");
    }

    public int school() {
        if (!page.toString().matches("[0-9]{2}[1-9]{4}:[csdgh]{1,6}")) {
            return STATE;
        }
        text = page.toString();
        page = new StringBuilder();
        now = new Room(text.length() - 7);
        image = null;
        read++;
        return children();
    }

    public int about(int child, int what) {
        if (!child(child)) {
            return UNKNOWN;
        }
        if (what < 0 || what > 4) {
            return OUTSIDE;
        }
        int parts = now.slates.get(child).stream().mapToInt(s -> s.parts).sum();
        int[] answers = {"csdgh".indexOf(kind(child)), now.seats.indexOf(child),
            now.ill.contains(child) ? 1 : 0, parts, now.told.get(child)};
        return answers[what];
    }

    public int as(int child, int kind) {
        if (!child(child)) {
            return UNKNOWN;
        }
        if (kind < 0 || kind > 4) {
            return OUTSIDE;
        }
        String all = "c" + kind(child) + (kind(child) == 'h' ? "g" : "");
        return all.indexOf("csdgh".charAt(kind)) >= 0 ? child : NONE;
    }

    public int seat(int seat) {
        return child(seat) ? now.seats.get(seat) : UNKNOWN;
    }

    public int swap(int a, int b) {
        if (!child(a) || !child(b)) {
            return UNKNOWN;
        }
        java.util.Collections.swap(now.seats, now.seats.indexOf(a), now.seats.indexOf(b));
        return now.seats.indexOf(b);
    }

    public int ill(int child, boolean is) {
        if (!child(child)) {
            return UNKNOWN;
        }
        return (is ? !now.ill.add(child) : now.ill.remove(child)) ? 1 : 0;
    }

    public int knows(int child, int subject, int what) {
        if (!child(child) || !subject(subject)) {
            return UNKNOWN;
        }
        if (what != 0 && what != 1) {
            return OUTSIDE;
        }
        Slate slate = now.slate(child, subject);
        return what == 0 ? slate.parts : bits(slate.mistakes);
    }

    private int teach(Room room, int subject, boolean sung) {
        List<Integer> well = new ArrayList<>(room.seats);
        well.removeAll(room.ill);
        return teach(room, well, subject, sung, null, 100, new TreeSet<>());
    }

    private int teach(Room room, List<Integer> well, int subject, boolean sung,
            Integer teacher, int given, TreeSet<Integer> mistakes) {
        if (well.isEmpty()) {
            return 0;
        }
        int pupil = well.get(0);
        Slate slate = room.slate(pupil, subject);
        boolean learns = given > slate.parts;
        if (learns) {
            slate.parts = given;
            slate.mistakes = new TreeSet<>(mistakes);
            if (kind(pupil) == 'd') {
                slate.mistakes.removeIf(m -> !Integer.valueOf(m).equals(teacher));
            }
        }
        boolean whole = sung || kind(pupil) == 'g' || kind(pupil) == 'h';
        TreeSet<Integer> handed = new TreeSet<>();
        if (kind(pupil) != 's') {
            handed.addAll(slate.mistakes);
            if (!sung) {
                handed.add(pupil);
            }
        }
        return (learns ? 1 : 0) + teach(room, well.subList(1, well.size()), subject, sung,
                pupil, whole ? slate.parts : less(slate.parts, loss()), handed);
    }

    public int lesson(int subject, boolean sung) {
        if (!subject(subject)) {
            return UNKNOWN;
        }
        return children() == 0 ? STATE : teach(now, subject, sung);
    }

    private int summer(Room room) {
        int before = room.parts();
        for (int child = 0; child < children(); child++) {
            for (Slate slate : room.slates.get(child)) {
                if (kind(child) != 'h') {
                    slate.parts = less(slate.parts, text.charAt(1) - '0');
                }
                if (slate.parts == 0) {
                    slate.mistakes.clear();
                }
            }
        }
        return before - room.parts();
    }

    public int summer() {
        return children() == 0 ? STATE : summer(now);
    }

    public int wipe(int child, int subject) {
        if (!child(child) || !subject(subject)) {
            return UNKNOWN;
        }
        int had = now.slate(child, subject).parts;
        now.slates.get(child).set(subject, new Slate());
        return had;
    }

    private static void orders(List<Integer> start, int children, List<List<Integer>> all) {
        if (start.size() == children) {
            all.add(new ArrayList<>(start));
        }
        for (int child = 0; child < children; child++) {
            if (!start.contains(child)) {
                start.add(child);
                orders(start, children, all);
                start.remove(start.size() - 1);
            }
        }
    }

    private List<Room> taughtInAllOrders() {
        List<List<Integer>> all = new ArrayList<>();
        orders(new ArrayList<>(), children(), all);
        List<Room> rooms = new ArrayList<>();
        for (List<Integer> order : all) {
            Room room = new Room(children());
            room.seats.clear();
            room.seats.addAll(order);
            teach(room, 0, false);
            rooms.add(room);
        }
        return rooms;
    }

    private Slate last(Room room) {
        return room.slate(room.seats.get(children() - 1), 0);
    }

    public int order(int what) {
        if (what < 0 || what > 15 || what > 1 && what < 10) {
            return OUTSIDE;
        }
        if (children() == 0) {
            return STATE;
        }
        List<Room> rooms = taughtInAllOrders();
        // The sort keeps like ones in their order, which is the one by numbers.
        rooms.sort((a, b) -> last(a).parts != last(b).parts ? last(b).parts - last(a).parts
                : last(a).mistakes.size() - last(b).mistakes.size());
        Room best = rooms.get(0);
        if (what < 2) {
            return what == 0 ? last(best).parts : last(best).mistakes.size();
        }
        return what - 10 < children() ? best.seats.get(what - 10) : NONE;
    }

    public int songs(int breath, int what) {
        if (breath < 0 || breath > 40 || what != 0 && what != 1) {
            return OUTSIDE;
        }
        if (children() == 0) {
            return STATE;
        }
        int which = 0;
        int most = -1;
        for (int songs = 15; songs >= 0; songs--) {
            Room room = now.copy();
            int needed = 0;
            for (int subject = 0; subject < 4; subject++) {
                boolean sung = (songs & 1 << subject) != 0;
                needed += sung ? text.charAt(2 + subject) - '0' : 0;
                teach(room, subject, sung);
            }
            if (needed <= breath && room.parts() >= most) {
                which = songs;
                most = room.parts();
            }
        }
        return what == 0 ? which : most;
    }

    public int asks(int child, int subject) {
        if (!child(child) || !subject(subject)) {
            return UNKNOWN;
        }
        int nearest = NONE;
        Slate own = now.slate(child, subject);
        for (int other : now.seats) {
            if (other == child) {
                break;
            }
            Slate slate = now.slate(other, subject);
            boolean fewer = slate.mistakes.size() < own.mistakes.size();
            boolean better = slate.parts > own.parts || slate.parts == own.parts && fewer;
            nearest = better && !now.ill.contains(other) ? other : nearest;
        }
        return nearest;
    }

    public int orders(int child, int mistakes, int what) {
        if (!child(child)) {
            return UNKNOWN;
        }
        if (mistakes < 0 || mistakes >= Math.pow(2, children()) || what != 0 && what != 1) {
            return OUTSIDE;
        }
        int seat = now.seats.indexOf(child);
        return (int) taughtInAllOrders().stream()
                .filter(room -> bits(room.slate(child, 0).mistakes) == mistakes)
                .filter(room -> what == 0 || room.seats.get(seat) == child)
                .count();
    }

    public int tell(int child, int got) {
        if (!child(child)) {
            return UNKNOWN;
        }
        return got < -1 || got > 1 ? OUTSIDE : now.told.set(child, got);
    }

    public int sick(int what) {
        if (what != 0 && what != 1) {
            return OUTSIDE;
        }
        if (children() == 0) {
            return STATE;
        }
        List<TreeSet<Integer>> sets = new ArrayList<>();
        for (int bits = 0; bits < Math.pow(2, children()); bits++) {
            Room room = new Room(children());
            room.seats.clear();
            room.seats.addAll(now.seats);
            for (int child = 0; child < children(); child++) {
                if ((bits >> child) % 2 == 1) {
                    room.ill.add(child);
                }
            }
            teach(room, 0, false);
            boolean fits = true;
            for (int child = 0; child < children(); child++) {
                int got = Math.min(1, room.slate(child, 0).parts);
                fits &= now.told.get(child) == NONE || now.told.get(child) == got;
            }
            if (fits) {
                sets.add(room.ill);
            }
        }
        if (what == 0 || sets.isEmpty()) {
            return sets.size();
        }
        TreeSet<Integer> sure = new TreeSet<>(sets.get(0));
        sets.forEach(sure::retainAll);
        return bits(sure);
    }

    public int years(int times, int seed, int what) {
        if (times < 1 || times > 60 || seed < 0 || what < 0 || what > 2) {
            return OUTSIDE;
        }
        if (children() == 0) {
            return STATE;
        }
        Room room = now.copy();
        long[] then = {seed};
        for (int time = 0; time < times; time++) {
            int event = draw(then, 6);
            if (event == 5) {
                int a = draw(then, children());
                int b = draw(then, children());
                java.util.Collections.swap(room.seats, a, b);
            } else if (event == 4) {
                summer(room);
            } else {
                teach(room, event, false);
            }
        }
        return what == 0 ? room.parts() : what == 1 ? room.mistakes() : (int) then[0];
    }

    private static int draw(long[] seed, int of) {
        seed[0] = (1103515245L * seed[0] + 12345) % (1L << 31);
        return (int) (seed[0] / 65536 % of);
    }

    public int image() {
        if (children() == 0) {
            return STATE;
        }
        image = now.copy();
        return children();
    }

    public int restore() {
        if (image == null) {
            return STATE;
        }
        now = image.copy();
        return children();
    }

    public int count(int what) {
        if (what < 0 || what > 11) {
            return OUTSIDE;
        }
        if (what < 6) {
            return text.isEmpty() ? 0 : text.charAt(what) - '0';
        }
        int[] counts = {children(), now.ill.size(), now.parts(), now.mistakes(), page.length(), read};
        return counts[what - 6];
    }

    public long digest() {
        List<Integer> numbers = new ArrayList<>();
        for (int child = 0; child < children(); child++) {
            for (int what = 0; what <= 4; what++) {
                numbers.add(about(child, what));
            }
            for (int subject = 0; subject < 4; subject++) {
                numbers.addAll(List.of(knows(child, subject, 0), knows(child, subject, 1),
                        asks(child, subject)));
            }
        }
        if (children() > 0) {
            numbers.addAll(List.of(order(0), order(1), order(10), order(11), order(12), order(13),
                    order(14), order(15), songs(10, 0), songs(10, 1), sick(0), sick(1)));
        }
        page.chars().forEach(numbers::add);
        for (int what = 0; what <= 11; what++) {
            numbers.add(count(what));
        }
        return numbers.stream().mapToLong(n -> n).reduce(773, (h, n) -> 31 * h + n);
    }
}
