import java.util.Arrays;

/** What a house may be, and promises 1 to 6, at their edges: a method for each sentence that names one. */
public final class HouseEdgesTest {
    private static final Check check = new Check();

    public static void main(String[] args) {
        fourSayings();
        oneToFourBeats();
        oneToThreeTaps();
        lettersAtEachPlace();
        promise1EachCall();
        promise2Codes();
        promise2ThirtyLetters();
        promise3EmptyAndFull();
        promise3TheHouseStays();
        promise4EmptyAndFull();
        promise4BehindThoseAheadOfIt();
        promise4ChangesNothing();
        promise5ShortestAndLongest();
        promise5ThePageStays();
        promise5ThePageIsEmptyThen();
        promise5AnotherIsGone();
        promise5TheSameTextAgain();
        promise6EachLength();
        callsUpToThe512th();
        twoObjects();
        check.end();
    }

    private static void houseDue(String text, int want) {
        DripSayings x = Check.withPage(text);
        check.due("house() of " + text, x.house(), want);
        check.due("letters behind house() of " + text, x.count(6), want == DripSayings.STATE ? text.length() : 0);
        check.due("times read behind house() of " + text, x.count(7), want == DripSayings.STATE ? 0 : 1);
    }

    /** "four SAYINGS (0 to 3)" */
    private static void fourSayings() {
        for (int sayings = 1; sayings <= 6; sayings++) {
            String text = "sl" + ",sl".repeat(sayings - 1) + ";t0";
            houseDue(text, sayings == 4 ? 1 : DripSayings.STATE);
            // the ';' of too few, the ',' ahead of a fifth one
            int want = sayings < 4 ? 3 * sayings - 1 : sayings > 4 ? 11 : text.length();
            check.due("fault() of " + text, Check.withPage(text).fault(), want);
        }
    }

    /** "each one to four BEATS" */
    private static void oneToFourBeats() {
        for (int saying = 0; saying < 4; saying++) {
            for (int beats = 0; beats <= 6; beats++) {
                for (String beat : new String[] {"s", "l"}) {
                    String[] sayings = {"s", "l", "s", "l"};
                    sayings[saying] = beat.repeat(beats);
                    String text = String.join(",", sayings) + ";t0";
                    boolean isHouse = beats >= 1 && beats <= 4;
                    houseDue(text, isHouse ? 1 : DripSayings.STATE);
                    int want = isHouse ? text.length() : 2 * saying + Math.min(beats, 4);
                    check.due("fault() of " + text, Check.withPage(text).fault(), want);
                }
            }
        }
    }

    /** "one to three TAPS (numbered from 0)" */
    private static void oneToThreeTaps() {
        String[] taps = {"", "e3", "e3,o2", "e3,o2,w1", "e3,o2,w1,b0", "e3,o2,w1,b0,t1"};
        for (int n = 0; n < taps.length; n++) {
            String text = "s,l,sl,ls;" + taps[n];
            houseDue(text, n >= 1 && n <= 3 ? n : DripSayings.STATE);
            check.due("fault() of " + text, Check.withPage(text).fault(), Math.min(text.length(), 18));
            DripSayings x = Check.withPage(text);
            x.house();
            int read = n <= 3 ? n : 0;
            for (int tap = 0; tap < 3; tap++) {
                int kind = tap < read ? 4 - tap : DripSayings.UNKNOWN;
                int saying = tap < read ? 3 - tap : DripSayings.UNKNOWN;
                check.due("kind of tap " + tap + " of " + text, x.about(tap, 0), kind);
                check.due("saying of tap " + tap + " of " + text, x.about(tap, 1), saying);
            }
        }
    }

    /** "SHORT 's' or LONG 'l'", "a letter, the KIND, and a digit (0 to 3)": at each place each code. */
    private static void lettersAtEachPlace() {
        String full = "ssss,llll,slsl,lsls;t0,b1,e3";
        String[] may = {
            "sl", "sl,", "sl,", "sl,", ",", "sl", "sl,", "sl,", "sl,", ",", "sl", "sl,", "sl,", "sl,", ",",
            "sl", "sl;", "sl;", "sl;", ";", "tbwoe", "0123", ",", "tbwoe", "0123", ",", "tbwoe", "0123", ""};
        check.due("places", may.length, full.length() + 1);
        for (int place = 0; place < may.length; place++) {
            for (int code = 1; code <= 126; code++) {
                DripSayings x = Check.withPage(full.substring(0, place));
                x.letter(code);
                int want = may[place].indexOf((char) code) >= 0 ? place + 1 : place;
                check.due("fault() with code " + code + " at " + place, x.fault(), want);
                // a house may end behind a digit alone
                boolean isHouse = want > place && place >= 21 && may[place].startsWith("0");
                check.due("house() with code " + code + " at " + place, x.house(),
                    isHouse ? place / 3 - 6 : DripSayings.STATE);
            }
        }
    }

    /** "No HOUSE": what each call answers in a new object. */
    private static void promise1EachCall() {
        int unknown = DripSayings.UNKNOWN;
        check.due("letter('s')", new DripSayings().letter('s'), 1);
        DripSayings x = new DripSayings();
        check.due("blank()", x.blank(), 0);
        check.due("fault()", x.fault(), 0);
        check.due("house()", x.house(), DripSayings.STATE);
        check.due("saying(3, 13)", x.saying(3, 13), unknown);
        check.due("tap(4, 3)", x.tap(4, 3), DripSayings.STATE);
        for (int what = 0; what <= 8; what++) check.due("about(0, " + what + ")", x.about(0, what), unknown);
        check.due("as(0, 0)", x.as(0, 0), unknown);
        check.due("drip(0, 0)", x.drip(0, 0), unknown);
        check.due("listen(0)", x.listen(0), unknown);
        check.due("washer(0, true)", x.washer(0, true), unknown);
        check.due("teach(0, 0)", x.teach(0, 0), unknown);
        check.due("agree(0, 1)", x.agree(0, 1), unknown);
        check.due("near(0, 0, 0)", x.near(0, 0, 0), unknown);
        check.due("put(0, 0, true)", x.put(0, 0, true), unknown);
        check.due("forget()", x.forget(), 0);
        check.due("nights(40, 0, 2)", x.nights(40, 0, 2), DripSayings.STATE);
        check.due("image()", x.image(), DripSayings.STATE);
        check.due("restore()", x.restore(), DripSayings.STATE);
        for (int what = 0; what <= 7; what++) check.due("count(" + what + ")", x.count(what), 0);
        // 1061, and eight counts that are 0
        check.due("digest()", x.digest(), 1061L * 31 * 31 * 31 * 31 * 31 * 31 * 31 * 31);
    }

    /** "code (1 to 126)", the least and the last of them, and those of which a cut would make letters */
    private static void promise2Codes() {
        DripSayings x = new DripSayings();
        int letters = 0;
        for (int code = -3; code <= 130; code++) {
            boolean is = code >= 1 && code <= 126;
            if (letters == 30) {
                check.due("blank()", x.blank(), 30);
                letters = 0;
            }
            if (is) letters++;
            check.due("letter(" + code + ")", x.letter(code), is ? letters : DripSayings.OUTSIDE);
            check.due("count(6) behind code " + code, x.count(6), letters);
        }
        for (int code : new int[] {'s' + 128, 's' + 256, 's' + 65536, 's' - 256, 's' + Integer.MIN_VALUE}) {
            check.refused(x, "letter(" + code + ")", () -> x.letter(code), DripSayings.OUTSIDE);
        }
    }

    /** "FULL: above 30"; OUTSIDE is told ahead of it */
    private static void promise2ThirtyLetters() {
        DripSayings x = new DripSayings();
        for (int i = 1; i <= 30; i++) check.due("letter " + i, x.letter(96 + i), i);
        for (int code : new int[] {1, 's', 126}) {
            check.refused(x, "code " + code + " as letter 31", () -> x.letter(code), DripSayings.FULL);
        }
        for (int code : new int[] {0, 127}) {
            check.refused(x, "code " + code + " as letter 31", () -> x.letter(code), DripSayings.OUTSIDE);
        }
        long h = 1061;
        for (int i = 1; i <= 30; i++) h = 31 * h + 96 + i;
        for (int what = 0; what <= 7; what++) h = 31 * h + (what == 6 ? 30 : 0);
        check.due("digest() of 30 letters", x.digest(), h);
        x.blank();
        check.due("letter behind blank()", x.letter(126), 1);
    }

    /** "THE PAGE is empty: how many letters it had" */
    private static void promise3EmptyAndFull() {
        for (int letters = 0; letters <= 30; letters++) {
            DripSayings x = Check.withPage("l".repeat(letters));
            check.due("blank() of " + letters, x.blank(), letters);
            check.due("count(6) behind it", x.count(6), 0);
            check.due("fault() behind it", x.fault(), 0);
            check.due("house() behind it", x.house(), DripSayings.STATE);
            check.due("blank() again", x.blank(), 0);
            check.due("digest() behind it", x.digest(), new DripSayings().digest());
        }
    }

    private static void promise3TheHouseStays() {
        DripSayings x = Check.withHouse("s,sl,lls,l;t0,b1");
        x.listen(0);
        x.put(0, 0, true);
        x.image();
        long before = x.digest();
        Check.write(x, "sl");
        check.due("blank()", x.blank(), 2);
        check.due("digest() behind it", x.digest(), before);
        check.due("blank() of an empty page", x.blank(), 0);
        check.due("digest() behind that", x.digest(), before);
        check.due("restore()", x.restore(), 1);
    }

    /** "how many letters it has, if there is none" */
    private static void promise4EmptyAndFull() {
        check.due("fault() of an empty page", new DripSayings().fault(), 0);
        String full = "ssss,llll,slsl,lsls;t0,b1,e3";
        for (int letters = 1; letters <= full.length(); letters++) {
            check.due("fault() of " + letters, Check.withPage(full.substring(0, letters)).fault(), letters);
        }
        // the longest house has 28 letters, so a full page has a fault
        check.due("fault() of a full page", Check.withPage(full + ",t").fault(), 28);
        check.due("fault() of a full page of one beat", Check.withPage("s".repeat(30)).fault(), 4);
    }

    /** "the first letter of THE PAGE that no HOUSE has there, behind those ahead of it" */
    private static void promise4BehindThoseAheadOfIt() {
        String full = "s,sl,lls,slll;o3,w2,b1";
        for (int place = 0; place <= full.length(); place++) {
            // what comes behind a fault does not matter, be it what a house would have or another fault
            String page = full.substring(0, place) + "x" + full.substring(Math.min(place + 1, full.length())) + "x";
            check.due("fault() of " + page, Check.withPage(page).fault(), place);
        }
    }

    private static void promise4ChangesNothing() {
        for (String page : new String[] {"", "s", "sx", "s,s,s,s;t0", "s,s,s,s;t0,b1,e2,"}) {
            DripSayings x = Check.withPage(page);
            long before = x.digest();
            int first = x.fault();
            check.due("fault() again of " + page, x.fault(), first);
            check.due("digest() behind it", x.digest(), before);
            check.due("blank() behind it", x.blank(), page.length());
        }
        DripSayings x = Check.withPage("s,s,s,s;t0");
        x.fault();
        check.due("house() behind fault()", x.house(), 1);
    }

    private static void promise5ShortestAndLongest() {
        houseDue("s,s,s,s;t0", 1);
        houseDue("l,l,l,l;e3", 1);
        houseDue("ssss,ssss,ssss,ssss;t0,t0,t0", 3);
        houseDue("llll,llll,llll,llll;e3,e3,e3", 3);
        houseDue("s,s,s,s;t", DripSayings.STATE);
        houseDue("llll,llll,llll,llll;e3,e3,e3,", DripSayings.STATE);
        houseDue("", DripSayings.STATE);
    }

    /** "STATE: it is none (THE PAGE stays)" */
    private static void promise5ThePageStays() {
        for (String text : new String[] {"", "s", "x", "s,s,s,s;t0,", "llll,llll,llll,llll;e3,e3,e3,t"}) {
            DripSayings x = Check.withPage(text);
            check.refused(x, "house() of " + text, x::house, DripSayings.STATE);
            check.due("blank() behind it", x.blank(), text.length());
        }
        DripSayings x = Check.withPage("s,s,s,s;t");
        check.due("house() a letter too early", x.house(), DripSayings.STATE);
        x.letter('0');
        check.due("house() of the page that stayed", x.house(), 1);
    }

    private static void promise5ThePageIsEmptyThen() {
        DripSayings x = Check.withPage("llll,llll,llll,llll;e3,e3,e3");
        x.house();
        check.due("house() again", x.house(), DripSayings.STATE);
        check.due("blank()", x.blank(), 0);
        check.due("taps stay", x.count(0), 3);
        for (int i = 1; i <= 30; i++) check.due("letter " + i + " of another page", x.letter('s'), i);
        check.due("letter 31", x.letter('s'), DripSayings.FULL);
    }

    /** "another one is gone, with all that was": of a full one nothing is left */
    private static void promise5AnotherIsGone() {
        DripSayings x = Check.withHouse("llll,llll,llll,llll;e3,e3,e3");
        x.tap(4, 3);
        x.tap(4, 3);
        for (int tap = 0; tap < 5; tap++) x.washer(tap, true);
        for (int i = 0; i < 60; i++) x.listen(0);
        for (int i = 0; i < 8; i++) x.put(i % 5, i, true);
        x.image();
        Check.write(x, "s,s,s,s;t0");
        check.due("house()", x.house(), 1);
        int[] counts = {1, 4, 0, 0, 0, 0, 0, 2};
        for (int what = 0; what <= 7; what++) check.due("count(" + what + ")", x.count(what), counts[what]);
        int[] about = {0, 0, 0, 0, DripSayings.NONE, 15, 0, 0, 0};
        for (int what = 0; what <= 8; what++) check.due("about(0, " + what + ")", x.about(0, what), about[what]);
        for (int tap = 1; tap < 5; tap++) check.due("about(" + tap + ", 0)", x.about(tap, 0), DripSayings.UNKNOWN);
        check.due("restore()", x.restore(), DripSayings.STATE);
        check.due("listen(0)", x.listen(0), 0);
        check.due("put(0, 0, true)", x.put(0, 0, true), 1);
        for (int tap = 1; tap < 5; tap++) {
            check.due("tap(1, 0)", x.tap(1, 0), tap);
            check.due("washer of " + tap, x.about(tap, 2), 0);
            check.due("place of " + tap, x.about(tap, 3), 0);
            check.due("says of " + tap, x.about(tap, 5), 15);
        }
    }

    private static void promise5TheSameTextAgain() {
        DripSayings x = new DripSayings();
        for (int times = 1; times <= 12; times++) {
            Check.write(x, "s,sl,lls,slll;t0,b1,e2");
            check.due("house()", x.house(), 3);
            check.due("count(7)", x.count(7), times);
            check.due("count(4)", x.count(4), 0);
            check.due("tap(3, 3)", x.tap(3, 3), 3);
            check.due("listen(0)", x.listen(0), 0);
            check.due("count(0)", x.count(0), 4);
        }
    }

    /** "10 to 13 the so-manieth (0 SHORT, 1 LONG; NONE: there is none)" */
    private static void promise6EachLength() {
        String[] texts = {"s", "l", "sl", "ls", "lll", "sls", "llls", "slll"};
        for (int first = 0; first <= 4; first += 4) {
            String[] sayings = Arrays.copyOfRange(texts, first, first + 4);
            DripSayings x = Check.withHouse(String.join(",", sayings) + ";t0");
            for (int saying = 0; saying < 4; saying++) {
                String text = sayings[saying];
                for (int what = -2; what <= 16; what++) {
                    int want = DripSayings.OUTSIDE;
                    if (what == 0) want = text.length();
                    if (what >= 10 && what <= 13) want = Check.beatOf(text, what - 10);
                    check.due("saying(" + saying + ", " + what + ")", x.saying(saying, what), want);
                }
            }
            check.due("saying(-1, 0)", x.saying(-1, 0), DripSayings.UNKNOWN);
            check.due("saying(4, 0)", x.saying(4, 0), DripSayings.UNKNOWN);
        }
    }

    /** "for at most 512 calls": the last of them is as the first */
    private static void callsUpToThe512th() {
        DripSayings x = Check.withHouse("s,sl,lls,slll;t0,b1,e2");
        int calls = 23;
        for (; calls < 510; calls++) {
            check.due("washer() as call " + (calls + 1), x.washer(0, calls % 2 == 0), calls == 23 ? 0 : calls % 2);
        }
        check.due("count(4) as call 511", x.count(4), 487);
        check.due("listen(1) as call 512", x.listen(1), 1);
    }

    /** What one object is asked for does not matter to another. */
    private static void twoObjects() {
        DripSayings x = Check.withHouse("s,sl,lls,slll;t0,b1,e2");
        DripSayings y = new DripSayings();
        long before = x.digest();
        check.due("digest() of the new one", y.digest(), new DripSayings().digest());
        Check.write(y, "l,l,l,l;o0");
        y.house();
        y.image();
        y.listen(0);
        y.put(0, 0, false);
        y.letter('s');
        check.due("digest() of the first", x.digest(), before);
        check.due("restore() of the first", x.restore(), DripSayings.STATE);
        check.due("count(7) of the first", x.count(7), 1);
    }
}
