/** Taps that drip what they say, and what is put down of them, as ../shared/DOC.md promises it. */
public final class DripSayings {
    public static final int NONE = -1, UNKNOWN = -101, OUTSIDE = -102, STATE = -103, FULL = -104;

    private static final int SHORT = 0, LONG = 1;
    private static final int PLAIN = 0, BRASS = 1, WORN = 2, OLD = 3, BELL = 4, KINDS = 5;
    private static final int SAYINGS = 4, MOST_BEATS = 4;
    private static final int MOST_TAPS = 5, MOST_TAPS_READ = 3;
    private static final int MOST_LETTERS = 30, LAST_CODE = 126;
    private static final int MOST_PLACE = 60, LAST_DRIP = 99;
    private static final int MOST_NOTES = 8, LAST_NOTED_DRIP = 59;
    private static final int SURE_DRIPS = 16, AGREE_DRIPS = 16, NEAR_DRIPS = 12, LISTEN_DRIPS = 8;
    private static final int MOST_NIGHT_DRIPS = 40, SLIP_DRAW = 8;
    private static final int LAST_ABOUT = 8, LAST_COUNT = 7, DIGEST_DRIPS = 8;
    private static final int WHAT_LENGTH = 0, WHAT_FIRST_BEAT = 10;

    private final Page page;
    private final Sayings sayings;
    private final Room room;
    private final Room kept;
    private boolean hasHouse;
    private boolean hasImage;
    private int housesRead;

    public DripSayings() {
        page = new Page();
        sayings = new Sayings();
        room = new Room();
        kept = new Room();
    }

    // ---- the house

    public int letter(int code) {
        if (code < 1 || code > LAST_CODE) return OUTSIDE;
        if (page.size >= MOST_LETTERS) return FULL;
        page.add(code);
        return page.size;
    }

    public int blank() {
        int had = page.size;
        page.clear();
        return had;
    }

    public int fault() {
        return page.firstFault();
    }

    public int house() {
        if (!page.isHouse()) return STATE;
        sayings.clear();
        room.clear();
        readPage();
        page.clear();
        hasHouse = true;
        hasImage = false;
        housesRead++;
        return room.tapCount;
    }

    public int saying(int saying, int what) {
        if (!hasHouse || !isSaying(saying)) return UNKNOWN;
        if (what == WHAT_LENGTH) return sayings.lengthOf(saying);
        if (what < WHAT_FIRST_BEAT || what >= WHAT_FIRST_BEAT + MOST_BEATS) return OUTSIDE;
        return sayings.beatOf(saying, what - WHAT_FIRST_BEAT);
    }

    // ---- taps

    public int tap(int kind, int saying) {
        if (!isKind(kind) || !isSaying(saying)) return OUTSIDE;
        if (!hasHouse) return STATE;
        if (room.tapCount >= MOST_TAPS) return FULL;
        room.addTap(kind, saying);
        return room.tapCount - 1;
    }

    public int about(int tap, int what) {
        Tap one = room.tapAt(tap);
        if (one == null) return UNKNOWN;
        if (what < 0 || what > LAST_ABOUT) return OUTSIDE;
        return aboutOf(one, what);
    }

    public int as(int tap, int kind) {
        Tap one = room.tapAt(tap);
        if (one == null) return UNKNOWN;
        if (!isKind(kind)) return OUTSIDE;
        boolean is = kind == PLAIN || kind == one.kind || kind == BRASS && one.kind == BELL;
        return is ? tap : NONE;
    }

    public int drip(int tap, int drip) {
        Tap one = room.tapAt(tap);
        if (one == null) return UNKNOWN;
        if (drip < 0 || drip > LAST_DRIP) return OUTSIDE;
        return dripOf(one, drip);
    }

    public int listen(int tap) {
        Tap one = room.tapAt(tap);
        if (one == null) return UNKNOWN;
        if (one.place >= MOST_PLACE) return STATE;
        int heard = dripOf(one, one.place);
        one.place++;
        room.changes++;
        return heard;
    }

    public int washer(int tap, boolean is) {
        Tap one = room.tapAt(tap);
        if (one == null) return UNKNOWN;
        int had = one.washer;
        one.washer = is ? 1 : 0;
        room.changes++;
        return had;
    }

    public int teach(int tap, int saying) {
        Tap one = room.tapAt(tap);
        if (one == null) return UNKNOWN;
        if (!isSaying(saying)) return OUTSIDE;
        int said = one.saying;
        one.saying = saying;
        room.changes++;
        return said;
    }

    // ---- what would be

    public int agree(int a, int b) {
        Tap one = room.tapAt(a);
        Tap other = room.tapAt(b);
        if (one == null || other == null || a == b) return UNKNOWN;
        int same = 0;
        for (int i = 0; i < AGREE_DRIPS; i++) {
            if (dripOf(one, one.place + i) == dripOf(other, other.place + i)) same++;
        }
        return same;
    }

    public int near(int tap, int saying, int what) {
        Tap one = room.tapAt(tap);
        if (one == null) return UNKNOWN;
        if (!isSaying(saying) || what < 0 || what > 1) return OUTSIDE;
        return nearOf(one, saying, what);
    }

    // ---- what is put down

    public int put(int tap, int drip, boolean isLong) {
        Tap one = room.tapAt(tap);
        if (one == null) return UNKNOWN;
        if (drip < 0 || drip > LAST_NOTED_DRIP) return OUTSIDE;
        if (room.noteCount >= MOST_NOTES) return FULL;
        room.addNote(one, drip, isLong ? LONG : SHORT);
        return room.noteCount;
    }

    public int forget() {
        int had = room.noteCount;
        room.noteCount = 0;
        return had;
    }

    public int nights(int drips, int seed, int what) {
        if (drips < 1 || drips > MOST_NIGHT_DRIPS || seed < 0 || what < 0 || what > 2) return OUTSIDE;
        if (!hasHouse) return STATE;
        int longs = 0;
        int slips = 0;
        int next = seed;
        for (int i = 0; i < drips; i++) {
            for (int number = 0; number < room.tapCount; number++) {
                Tap one = room.tapAt(number);
                if (one == null) continue;
                next = nextSeed(next);
                int slip = drawOf(next) == 0 ? 1 : 0;
                slips += slip;
                longs += dripOf(one, one.place + i) ^ slip;
            }
        }
        return what == 0 ? longs : what == 1 ? slips : next;
    }

    // ---- what is told of all

    public int image() {
        if (!hasHouse) return STATE;
        kept.copyFrom(room);
        hasImage = true;
        return room.changes;
    }

    public int restore() {
        if (!hasImage) return STATE;
        room.copyFrom(kept);
        return room.changes;
    }

    public int count(int what) {
        if (what < 0 || what > LAST_COUNT) return OUTSIDE;
        return countOf(what);
    }

    public long digest() {
        long h = 1061;
        if (hasHouse) h = digestSayings(h);
        for (int number = 0; number < room.tapCount; number++) {
            Tap one = room.tapAt(number);
            if (one != null) h = digestTap(h, one);
        }
        for (int i = 0; i < page.size; i++) h = 31 * h + page.codeAt(i);
        for (int what = 0; what <= LAST_COUNT; what++) h = 31 * h + countOf(what);
        return h;
    }

    private static boolean isKind(int kind) {
        return kind >= 0 && kind < KINDS;
    }

    private static boolean isSaying(int saying) {
        return saying >= 0 && saying < SAYINGS;
    }

    private static int kindOfLetter(int code) {
        switch (code) {
            case 't': return PLAIN;
            case 'b': return BRASS;
            case 'w': return WORN;
            case 'o': return OLD;
            case 'e': return BELL;
            default: return NONE;
        }
    }

    /** Takes over what THE PAGE says; to be called only for one that is a HOUSE. */
    private void readPage() {
        boolean atTaps = false;
        int saying = 0;
        int kind = PLAIN;
        for (int i = 0; i < page.size; i++) {
            int code = page.codeAt(i);
            // a comma among the taps leads behind the last saying, where no beat comes any more
            if (code == ',') saying++;
            else if (code == ';') atTaps = true;
            else if (!atTaps) sayings.addBeat(saying, code == 'l' ? LONG : SHORT);
            else if (kindOfLetter(code) != NONE) kind = kindOfLetter(code);
            else room.addTap(kind, code - '0');
        }
    }

    private int dripOf(Tap tap, int drip) {
        return sayings.dripBy(tap.kind, tap.saying, tap.washer, drip);
    }

    private int aboutOf(Tap tap, int what) {
        switch (what) {
            case 0: return tap.kind;
            case 1: return tap.saying;
            case 2: return tap.washer;
            case 3: return tap.place;
            case 4: return sureOf(tap);
            case 5: return saysOf(tap);
            case 6: return likelyOf(tap);
            case 7: return slipsOf(tap, likelyOf(tap));
            default: return bestToHear(tap, saysOf(tap));
        }
    }

    /** As many drips as the pair needs that is told apart last. */
    private int sureOf(Tap tap) {
        int most = 0;
        for (int a = 0; a < SAYINGS; a++) {
            for (int b = a + 1; b < SAYINGS; b++) {
                int enough = enoughToTell(tap, a, b);
                if (enough == NONE) return NONE;
                most = Math.max(most, enough);
            }
        }
        return most;
    }

    private int enoughToTell(Tap tap, int a, int b) {
        for (int i = 0; i < SURE_DRIPS; i++) {
            int ofA = sayings.dripBy(tap.kind, a, tap.washer, tap.place + i);
            int ofB = sayings.dripBy(tap.kind, b, tap.washer, tap.place + i);
            if (ofA != ofB) return i + 1;
        }
        return NONE;
    }

    private int saysOf(Tap tap) {
        int bits = 0;
        for (int saying = 0; saying < SAYINGS; saying++) {
            if (slipsOf(tap, saying) == 0) bits |= 1 << saying;
        }
        return bits;
    }

    private int likelyOf(Tap tap) {
        int best = 0;
        for (int saying = 1; saying < SAYINGS; saying++) {
            if (slipsOf(tap, saying) < slipsOf(tap, best)) best = saying;
        }
        return best;
    }

    /** How much of what is put down of a tap is not so, if it says this saying. */
    private int slipsOf(Tap tap, int saying) {
        int slips = 0;
        for (int i = 0; i < room.noteCount; i++) {
            Note note = room.noteAt(i);
            if (note == null || note.tap != tap.number) continue;
            // the washer that was in at the time counts, not the one of now
            if (sayings.dripBy(tap.kind, saying, note.washer, note.drip) != note.beat) slips++;
        }
        return slips;
    }

    private int bestToHear(Tap tap, int says) {
        if (says == 0) return NONE;
        int best = 0;
        for (int i = 1; i < LISTEN_DRIPS; i++) {
            if (leftAtWorst(tap, says, i) < leftAtWorst(tap, says, best)) best = i;
        }
        return best;
    }

    private int leftAtWorst(Tap tap, int says, int ahead) {
        int shorts = 0;
        int longs = 0;
        for (int saying = 0; saying < SAYINGS; saying++) {
            if ((says >> saying & 1) == 0) continue;
            if (sayings.dripBy(tap.kind, saying, tap.washer, tap.place + ahead) == LONG) longs++;
            else shorts++;
        }
        return Math.max(shorts, longs);
    }

    private int nearOf(Tap tap, int saying, int what) {
        int without = unlikeOf(tap, 0, saying);
        int with = unlikeOf(tap, 1, saying);
        if (what == 0) return with < without ? 1 : 0;
        return Math.min(with, without);
    }

    private int unlikeOf(Tap tap, int washer, int saying) {
        int unlike = 0;
        for (int i = 0; i < NEAR_DRIPS; i++) {
            int own = sayings.dripBy(tap.kind, tap.saying, washer, i);
            if (own != sayings.dripBy(PLAIN, saying, 0, i)) unlike++;
        }
        return unlike;
    }

    private static int nextSeed(int seed) {
        // as longs: a seed times the factor does not fit an int
        return (int) ((1103515245L * seed + 12345L) % 2147483648L);
    }

    private static int drawOf(int seed) {
        return seed / 65536 % SLIP_DRAW;
    }

    private int countOf(int what) {
        switch (what) {
            case 0: return room.tapCount;
            case 1: return sayings.beatCount();
            case 2: return room.washerCount();
            case 3: return room.heardCount();
            case 4: return room.changes;
            case 5: return room.noteCount;
            case 6: return page.size;
            default: return housesRead;
        }
    }

    private long digestSayings(long start) {
        long h = start;
        for (int saying = 0; saying < SAYINGS; saying++) {
            h = 31 * h + sayings.lengthOf(saying);
            for (int i = 0; i < MOST_BEATS; i++) h = 31 * h + sayings.beatOf(saying, i);
        }
        return h;
    }

    private long digestTap(long start, Tap tap) {
        long h = start;
        for (int what = 0; what <= LAST_ABOUT; what++) h = 31 * h + aboutOf(tap, what);
        for (int drip = 0; drip < DIGEST_DRIPS; drip++) h = 31 * h + dripOf(tap, drip);
        for (int saying = 0; saying < SAYINGS; saying++) {
            for (int what = 0; what <= 1; what++) h = 31 * h + nearOf(tap, saying, what);
        }
        return h;
    }

    /** The letters that are to become a house. */
    private static final class Page {
        private final int[] codes;
        private final Reader reader;
        int size;

        Page() {
            codes = new int[MOST_LETTERS];
            reader = new Reader();
        }

        void clear() {
            size = 0;
        }

        void add(int code) {
            if (size < 0 || size >= codes.length) return;
            codes[size] = code;
            size++;
        }

        int codeAt(int index) {
            return index >= 0 && index < size && index < codes.length ? codes[index] : NONE;
        }

        int firstFault() {
            reader.begin();
            for (int i = 0; i < size; i++) {
                if (!reader.takes(codeAt(i))) return i;
            }
            return size;
        }

        boolean isHouse() {
            return firstFault() == size && reader.isAtEnd();
        }
    }

    /** Takes the letters of a house one by one; once it has refused one it must begin anew. */
    private static final class Reader {
        private int saying;
        private int taps;
        private int letters;

        void begin() {
            saying = 0;
            taps = 0;
            letters = 0;
        }

        boolean takes(int code) {
            return saying < SAYINGS ? takesInSaying(code) : takesInTap(code);
        }

        /** Whether a house may end behind what has been taken. */
        boolean isAtEnd() {
            return saying == SAYINGS && letters == 2;
        }

        private boolean takesInSaying(int code) {
            if (code == 's' || code == 'l') {
                letters++;
                return letters <= MOST_BEATS;
            }
            int closing = saying == SAYINGS - 1 ? ';' : ',';
            if (letters == 0 || code != closing) return false;
            saying++;
            letters = 0;
            return true;
        }

        private boolean takesInTap(int code) {
            if (letters == 0) {
                letters = 1;
                return kindOfLetter(code) != NONE;
            }
            if (letters == 1) {
                letters = 2;
                taps++;
                return isSaying(code - '0');
            }
            letters = 0;
            return code == ',' && taps < MOST_TAPS_READ;
        }
    }

    /** The sayings of a house, and how each kind of tap drips them. */
    private static final class Sayings {
        private final int[] beats;
        private final int[] lengths;

        Sayings() {
            beats = new int[SAYINGS * MOST_BEATS];
            lengths = new int[SAYINGS];
        }

        void clear() {
            for (int i = 0; i < beats.length; i++) beats[i] = NONE;
            for (int i = 0; i < lengths.length; i++) lengths[i] = 0;
        }

        void addBeat(int saying, int beat) {
            if (saying < 0 || saying >= lengths.length) return;
            int index = saying * MOST_BEATS + lengths[saying];
            if (lengths[saying] >= MOST_BEATS || index < 0 || index >= beats.length) return;
            beats[index] = beat;
            lengths[saying]++;
        }

        int lengthOf(int saying) {
            return saying >= 0 && saying < lengths.length ? lengths[saying] : 0;
        }

        int beatOf(int saying, int place) {
            if (saying < 0 || saying >= SAYINGS || place < 0 || place >= MOST_BEATS) return NONE;
            int index = saying * MOST_BEATS + place;
            return index < beats.length ? beats[index] : NONE;
        }

        int beatCount() {
            int all = 0;
            for (int i = 0; i < lengths.length; i++) all += lengths[i];
            return all;
        }

        int dripBy(int kind, int saying, int washer, int drip) {
            int length = lengthOf(saying);
            if (length < 1 || drip < 0) return SHORT;
            int place = drip % length;
            int fromEnd = length - 1 - place;
            switch (kind) {
                case BRASS: return beatOf(saying, fromEnd) ^ washer;
                case WORN: return (drip % 2 == 1 ? SHORT : beatOf(saying, place)) ^ washer;
                case OLD: return (place == 0 ? LONG : beatOf(saying, place)) ^ washer;
                case BELL: return beatOf(saying, fromEnd) ^ 1 ^ washer;
                default: return beatOf(saying, place) ^ washer;
            }
        }
    }

    private static final class Tap {
        final int number;
        int kind;
        int saying;
        int washer;
        int place;

        Tap(int number) {
            this.number = number;
        }

        void become(int newKind, int newSaying, int newWasher, int newPlace) {
            kind = newKind;
            saying = newSaying;
            washer = newWasher;
            place = newPlace;
        }
    }

    /** One drip of a tap that is put down, with the washer (1, 0) that the tap had then. */
    private static final class Note {
        int tap;
        int drip;
        int beat;
        int washer;

        void become(int newTap, int newDrip, int newBeat, int newWasher) {
            tap = newTap;
            drip = newDrip;
            beat = newBeat;
            washer = newWasher;
        }
    }

    /** All that an image keeps; its taps and notes are made once and used again. */
    private static final class Room {
        private final Tap[] taps;
        private final Note[] notes;
        int tapCount;
        int noteCount;
        int changes;

        Room() {
            taps = new Tap[MOST_TAPS];
            for (int i = 0; i < taps.length; i++) taps[i] = new Tap(i);
            notes = new Note[MOST_NOTES];
            for (int i = 0; i < notes.length; i++) notes[i] = new Note();
        }

        void clear() {
            tapCount = 0;
            noteCount = 0;
            changes = 0;
        }

        Tap tapAt(int number) {
            return number >= 0 && number < tapCount && number < taps.length ? taps[number] : null;
        }

        Note noteAt(int index) {
            return index >= 0 && index < noteCount && index < notes.length ? notes[index] : null;
        }

        void addTap(int kind, int saying) {
            if (tapCount >= MOST_TAPS) return;
            tapCount++;
            Tap added = tapAt(tapCount - 1);
            if (added != null) added.become(kind, saying, 0, 0);
        }

        void addNote(Tap tap, int drip, int beat) {
            if (noteCount >= MOST_NOTES) return;
            noteCount++;
            Note added = noteAt(noteCount - 1);
            if (added != null) added.become(tap.number, drip, beat, tap.washer);
        }

        void copyFrom(Room other) {
            tapCount = other.tapCount;
            noteCount = other.noteCount;
            changes = other.changes;
            for (int i = 0; i < tapCount; i++) {
                Tap own = tapAt(i);
                Tap from = other.tapAt(i);
                if (own == null || from == null) continue;
                own.become(from.kind, from.saying, from.washer, from.place);
            }
            for (int i = 0; i < noteCount; i++) {
                Note own = noteAt(i);
                Note from = other.noteAt(i);
                if (own == null || from == null) continue;
                own.become(from.tap, from.drip, from.beat, from.washer);
            }
        }

        int washerCount() {
            int all = 0;
            for (int i = 0; i < tapCount; i++) {
                Tap one = tapAt(i);
                if (one != null) all += one.washer;
            }
            return all;
        }

        int heardCount() {
            int all = 0;
            for (int i = 0; i < tapCount; i++) {
                Tap one = tapAt(i);
                if (one != null) all += one.place;
            }
            return all;
        }
    }
}
