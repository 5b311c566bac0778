import java.util.ArrayList;
import java.util.HashSet;
import java.util.List;
import java.util.Set;
import java.util.regex.Matcher;
import java.util.regex.Pattern;

/** The document once more, by texts and lists, to compare long runs of calls with. */
final class Model {
    private static final Pattern HOUSE =
        Pattern.compile("[sl]{1,4}(,[sl]{1,4}){3};[tbwoe][0-3](,[tbwoe][0-3]){0,2}");
    private static final String KINDS = "tbwoe";

    private record Tap(int kind, int saying, boolean washer, int place) { }

    private record Note(int tap, int drip, char heard, boolean washer) { }

    private record State(List<Tap> taps, List<Note> notes, int changes) {
        State copy() {
            return new State(new ArrayList<>(taps), new ArrayList<>(notes), changes);
        }
    }

    private String page = "";
    private String[] sayings = null;
    private State now = new State(new ArrayList<>(), new ArrayList<>(), 0);
    private State image = null;
    private int houses = 0;

    private static String other(String drips) {
        return drips.replace('s', 'x').replace('l', 's').replace('x', 'l');
    }

    /** Enough drips from the first on for every question of the document. */
    private static String drips(int kind, String saying, boolean washer) {
        String back = new StringBuilder(saying).reverse().toString();
        String drips = switch (kind) {
            case 1 -> back.repeat(128);
            case 3 -> ("l" + saying.substring(1)).repeat(128);
            case 4 -> other(back).repeat(128);
            default -> saying.repeat(128);
        };
        if (kind == 2) {
            StringBuilder worn = new StringBuilder(drips);
            for (int i = 1; i < worn.length(); i += 2) worn.setCharAt(i, 's');
            drips = worn.toString();
        }
        return washer ? other(drips) : drips;
    }

    private String drips(Tap tap) {
        return drips(tap.kind, sayings[tap.saying], tap.washer);
    }

    private static int unlike(String a, String b) {
        int unlike = 0;
        for (int i = 0; i < a.length(); i++) if (a.charAt(i) != b.charAt(i)) unlike++;
        return unlike;
    }

    private boolean unknown(int tap) {
        return tap < 0 || tap >= now.taps.size();
    }

    private static boolean out(int number, int least, int most) {
        return number < least || number > most;
    }

    private void change(int number, Tap tap) {
        now.taps.set(number, tap);
        now = new State(now.taps, now.notes, now.changes + 1);
    }

    int letter(int code) {
        if (out(code, 1, 126)) return DripSayings.OUTSIDE;
        if (page.length() == 30) return DripSayings.FULL;
        page += (char) code;
        return page.length();
    }

    int blank() {
        int had = page.length();
        page = "";
        return had;
    }

    int fault() {
        for (int i = 1; i <= page.length(); i++) {
            Matcher matcher = HOUSE.matcher(page.substring(0, i));
            if (!matcher.matches() && !matcher.hitEnd()) return i - 1;
        }
        return page.length();
    }

    int house() {
        if (!HOUSE.matcher(page).matches()) return DripSayings.STATE;
        String[] parts = page.split(";");
        sayings = parts[0].split(",");
        now = new State(new ArrayList<>(), new ArrayList<>(), 0);
        for (String tap : parts[1].split(",")) {
            now.taps.add(new Tap(KINDS.indexOf(tap.charAt(0)), tap.charAt(1) - '0', false, 0));
        }
        image = null;
        page = "";
        houses++;
        return now.taps.size();
    }

    int saying(int saying, int what) {
        if (sayings == null || out(saying, 0, 3)) return DripSayings.UNKNOWN;
        if (what == 0) return sayings[saying].length();
        if (out(what, 10, 13)) return DripSayings.OUTSIDE;
        if (what - 10 >= sayings[saying].length()) return DripSayings.NONE;
        return bit(sayings[saying].charAt(what - 10));
    }

    private static int bit(char beat) {
        return beat == 'l' ? 1 : 0;
    }

    int tap(int kind, int saying) {
        if (out(kind, 0, 4) || out(saying, 0, 3)) return DripSayings.OUTSIDE;
        if (sayings == null) return DripSayings.STATE;
        if (now.taps.size() == 5) return DripSayings.FULL;
        now.taps.add(new Tap(kind, saying, false, 0));
        return now.taps.size() - 1;
    }

    int about(int number, int what) {
        if (unknown(number)) return DripSayings.UNKNOWN;
        if (out(what, 0, 8)) return DripSayings.OUTSIDE;
        Tap tap = now.taps.get(number);
        List<Integer> slips = slips(number);
        int least = slips.stream().min(Integer::compare).orElseThrow();
        return switch (what) {
            case 0 -> tap.kind;
            case 1 -> tap.saying;
            case 2 -> tap.washer ? 1 : 0;
            case 3 -> tap.place;
            case 4 -> sure(tap);
            case 5 -> says(slips).stream().mapToInt(saying -> 1 << saying).sum();
            case 6 -> slips.indexOf(least);
            case 7 -> least;
            default -> hear(tap, says(slips));
        };
    }

    private int sure(Tap tap) {
        for (int n = 1; n <= 16; n++) {
            Set<String> heard = new HashSet<>();
            for (String saying : sayings) {
                heard.add(drips(tap.kind, saying, tap.washer).substring(tap.place, tap.place + n));
            }
            if (heard.size() == 4) return n;
        }
        return DripSayings.NONE;
    }

    private List<Integer> slips(int number) {
        List<Integer> slips = new ArrayList<>();
        for (String saying : sayings) {
            int kind = now.taps.get(number).kind;
            slips.add((int) now.notes.stream().filter(note -> note.tap == number)
                .filter(note -> drips(kind, saying, note.washer).charAt(note.drip) != note.heard).count());
        }
        return slips;
    }

    private static List<Integer> says(List<Integer> slips) {
        List<Integer> says = new ArrayList<>();
        for (int i = 0; i < 4; i++) if (slips.get(i) == 0) says.add(i);
        return says;
    }

    private int hear(Tap tap, List<Integer> says) {
        int best = DripSayings.NONE;
        int fewest = Integer.MAX_VALUE;
        for (int i = 7; i >= 0 && !says.isEmpty(); i--) {
            int[] left = new int[2];
            for (int saying : says) {
                left[bit(drips(tap.kind, sayings[saying], tap.washer).charAt(tap.place + i))]++;
            }
            int worst = Math.max(left[0], left[1]);
            if (worst <= fewest) best = i;
            fewest = Math.min(fewest, worst);
        }
        return best;
    }

    int as(int number, int kind) {
        if (unknown(number)) return DripSayings.UNKNOWN;
        if (out(kind, 0, 4)) return DripSayings.OUTSIDE;
        List<Integer> all = List.of(List.of(0), List.of(0, 1), List.of(0, 2), List.of(0, 3), List.of(0, 1, 4))
            .get(now.taps.get(number).kind);
        return all.contains(kind) ? number : DripSayings.NONE;
    }

    int drip(int number, int drip) {
        if (unknown(number)) return DripSayings.UNKNOWN;
        if (out(drip, 0, 99)) return DripSayings.OUTSIDE;
        return bit(drips(now.taps.get(number)).charAt(drip));
    }

    int listen(int number) {
        if (unknown(number)) return DripSayings.UNKNOWN;
        Tap tap = now.taps.get(number);
        if (tap.place == 60) return DripSayings.STATE;
        change(number, new Tap(tap.kind, tap.saying, tap.washer, tap.place + 1));
        return bit(drips(tap).charAt(tap.place));
    }

    int washer(int number, boolean is) {
        if (unknown(number)) return DripSayings.UNKNOWN;
        Tap tap = now.taps.get(number);
        change(number, new Tap(tap.kind, tap.saying, is, tap.place));
        return tap.washer ? 1 : 0;
    }

    int teach(int number, int saying) {
        if (unknown(number)) return DripSayings.UNKNOWN;
        if (out(saying, 0, 3)) return DripSayings.OUTSIDE;
        Tap tap = now.taps.get(number);
        change(number, new Tap(tap.kind, saying, tap.washer, tap.place));
        return tap.saying;
    }

    int agree(int a, int b) {
        if (unknown(a) || unknown(b) || a == b) return DripSayings.UNKNOWN;
        Tap one = now.taps.get(a);
        Tap two = now.taps.get(b);
        return 16 - unlike(drips(one).substring(one.place, one.place + 16),
            drips(two).substring(two.place, two.place + 16));
    }

    int near(int number, int saying, int what) {
        if (unknown(number)) return DripSayings.UNKNOWN;
        if (out(saying, 0, 3) || out(what, 0, 1)) return DripSayings.OUTSIDE;
        Tap tap = now.taps.get(number);
        String own = drips(tap.kind, sayings[tap.saying], false).substring(0, 12);
        String plain = drips(0, sayings[saying], false).substring(0, 12);
        int without = unlike(own, plain);
        int with = unlike(other(own), plain);
        if (what == 1) return Math.min(without, with);
        return without <= with ? 0 : 1;
    }

    int put(int number, int drip, boolean isLong) {
        if (unknown(number)) return DripSayings.UNKNOWN;
        if (out(drip, 0, 59)) return DripSayings.OUTSIDE;
        if (now.notes.size() == 8) return DripSayings.FULL;
        now.notes.add(new Note(number, drip, isLong ? 'l' : 's', now.taps.get(number).washer));
        return now.notes.size();
    }

    int forget() {
        int had = now.notes.size();
        now.notes.clear();
        return had;
    }

    int nights(int drips, int seed, int what) {
        if (out(drips, 1, 40) || seed < 0 || out(what, 0, 2)) return DripSayings.OUTSIDE;
        if (sayings == null) return DripSayings.STATE;
        long next = seed;
        int longs = 0;
        int slips = 0;
        for (int i = 0; i < drips; i++) {
            for (Tap tap : now.taps) {
                next = Math.floorMod(Math.multiplyExact(1103515245L, next) + 12345L, 1L << 31);
                boolean slip = Math.floorDiv(next, 65536L) % 8 == 0;
                boolean isLong = drips(tap).charAt(tap.place + i) == 'l';
                if (slip) slips++;
                if (slip ? !isLong : isLong) longs++;
            }
        }
        return List.of(longs, slips, (int) next).get(what);
    }

    int image() {
        if (sayings == null) return DripSayings.STATE;
        image = now.copy();
        return now.changes;
    }

    int restore() {
        if (image == null) return DripSayings.STATE;
        now = image.copy();
        return now.changes;
    }

    int count(int what) {
        if (out(what, 0, 7)) return DripSayings.OUTSIDE;
        return switch (what) {
            case 0 -> now.taps.size();
            case 1 -> sayings == null ? 0 : String.join("", sayings).length();
            case 2 -> (int) now.taps.stream().filter(Tap::washer).count();
            case 3 -> now.taps.stream().mapToInt(Tap::place).sum();
            case 4 -> now.changes;
            case 5 -> now.notes.size();
            case 6 -> page.length();
            default -> houses;
        };
    }

    long digest() {
        List<Integer> told = new ArrayList<>();
        for (int saying = 0; saying < 4 && sayings != null; saying++) {
            for (int what : new int[] {0, 10, 11, 12, 13}) told.add(saying(saying, what));
        }
        for (int tap = 0; tap < now.taps.size(); tap++) {
            for (int what = 0; what <= 8; what++) told.add(about(tap, what));
            for (int drip = 0; drip <= 7; drip++) told.add(drip(tap, drip));
            for (int near = 0; near < 8; near++) told.add(near(tap, near / 2, near % 2));
        }
        for (char letter : page.toCharArray()) told.add((int) letter);
        for (int what = 0; what <= 7; what++) told.add(count(what));
        long h = 1061;
        for (int number : told) h = 31 * h + number;
        return h;
    }
}
