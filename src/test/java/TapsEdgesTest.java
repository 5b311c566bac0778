/** What taps drip, SURE, and promises 7 to 13, at their edges: a method for each sentence that names one. */
public final class TapsEdgesTest {
    private static final Check check = new Check();
    private static final String KINDS = "tbwoe";

    public static void main(String[] args) {
        eachKindOverAndOver();
        kindsOfOneBeat();
        placeAndWasherAtFirst();
        sureTheFewest();
        sureTheMost();
        sureNone();
        sureFromThePlaceOn();
        promise7UpToFive();
        promise7EachKindAndSaying();
        promise8FirstAndLastTap();
        promise9EachKind();
        promise10FromDrip0On();
        promise11UpToPlace60();
        promise11EachTapItsPlace();
        promise12WhetherItHadOne();
        promise12AtTheLastPlace();
        promise13FirstAndLastSaying();
        promise13AtOnce();
        check.end();
    }

    private static String other(String drips) {
        return drips.replace('s', '.').replace('l', 's').replace('.', 'l');
    }

    private static void dripsDue(String text, boolean washer, String want) {
        DripSayings x = Check.withHouse(text);
        if (washer) x.washer(0, true);
        for (int drip = 0; drip <= 99; drip++) {
            String call = "drip(0, " + drip + ") of " + text + (washer ? " with a washer" : "");
            check.due(call, x.drip(0, drip), Check.beatOf(want, drip % want.length()));
        }
        check.due("drip(0, -1)", x.drip(0, -1), DripSayings.OUTSIDE);
        check.due("drip(0, 100)", x.drip(0, 100), DripSayings.OUTSIDE);
    }

    /** "A TAP DRIPS its SAYING over and over": each kind, each length, up to the last drip, 99 */
    private static void eachKindOverAndOver() {
        String[][] want = {
            {"l", "sl", "sll", "ssll"}, {"l", "ls", "lls", "llss"}, {"ls", "ss", "sslsls", "ssls"},
            {"l", "ll", "lll", "lsll"}, {"s", "sl", "ssl", "ssll"}};
        for (int kind = 0; kind < 5; kind++) {
            for (int saying = 0; saying < 4; saying++) {
                String text = "l,sl,sll,ssll;" + KINDS.charAt(kind) + saying;
                dripsDue(text, false, want[kind][saying]);
                dripsDue(text, true, other(want[kind][saying]));
            }
        }
    }

    /** One beat is the first, the last, and each one; of a WORN tap it is heard by even numbers alone. */
    private static void kindsOfOneBeat() {
        String[] ofShort = {"s", "s", "s", "l", "l"};
        String[] ofLong = {"l", "l", "ls", "l", "s"};
        for (int kind = 0; kind < 5; kind++) {
            dripsDue("s,l,s,l;" + KINDS.charAt(kind) + "0", false, ofShort[kind]);
            dripsDue("s,l,s,l;" + KINDS.charAt(kind) + "1", false, ofLong[kind]);
            dripsDue("s,l,s,l;" + KINDS.charAt(kind) + "2", true, other(ofShort[kind]));
            dripsDue("s,l,s,l;" + KINDS.charAt(kind) + "3", true, other(ofLong[kind]));
        }
    }

    /** "At first all are at PLACE 0, without a WASHER": those of the house and those that come */
    private static void placeAndWasherAtFirst() {
        DripSayings x = Check.withHouse("s,sl,lls,slll;t0,b1,e2");
        for (int tap = 0; tap < 3; tap++) {
            x.listen(tap);
            x.washer(tap, true);
        }
        check.due("tap(1, 1)", x.tap(1, 1), 3);
        check.due("tap(2, 2)", x.tap(2, 2), 4);
        for (int tap = 0; tap < 5; tap++) {
            check.due("washer of " + tap, x.about(tap, 2), tap < 3 ? 1 : 0);
            check.due("place of " + tap, x.about(tap, 3), tap < 3 ? 1 : 0);
        }
        DripSayings y = Check.withHouse("s,sl,lls,slll;t0");
        y.image();
        y.tap(1, 1);
        y.listen(1);
        y.washer(1, true);
        y.restore();
        check.due("the number again", y.tap(2, 2), 1);
        check.due("its washer", y.about(1, 2), 0);
        check.due("its place", y.about(1, 3), 0);
    }

    private static void sureDue(String text, int want) {
        DripSayings x = Check.withHouse(text);
        check.due("sure of " + text, x.about(0, 4), want);
        x.washer(0, true);
        check.due("sure with a washer, of " + text, x.about(0, 4), want);
    }

    /** "the fewest": one drip can't tell four apart, two can */
    private static void sureTheFewest() {
        sureDue("s,sl,ls,l;t0", 2);
        sureDue("s,sl,ls,l;b3", 2);
        sureDue("s,sl,ls,l;e1", 2);
        sureDue("s,sl,lls,l;t0", 3);
        sureDue("s,sssl,ssls,ssll;t0", 4);
        sureDue("s,sssl,ssls,ssll;b0", 2);
    }

    /** Six drips are the most that are needed, of a worn tap eight. */
    private static void sureTheMost() {
        sureDue("ls,ssl,ssls,l;t0", 6);
        sureDue("l,ls,sll,lsll;b0", 6);
        sureDue("sl,s,sll,lsll;e0", 6);
        DripSayings x = Check.withHouse("sls,ssls,lsss,s;w0");
        int[] worn = {5, 8, 7, 6, 5, 6, 5, 8, 7, 6, 5, 6, 5};
        for (int place = 0; place < worn.length; place++) {
            check.due("sure of a worn tap from drip " + place, x.about(0, 4), worn[place]);
            x.listen(0);
        }
    }

    /** "none, if 16 are not": two that can't be told apart, first, last, or by their kind alone */
    private static void sureNone() {
        int none = DripSayings.NONE;
        sureDue("s,s,l,sl;t0", none);
        sureDue("l,sl,s,s;t0", none);
        sureDue("s,l,sl,ssss;t1", none);
        sureDue("l,sl,s,slsl;t2", none);
        sureDue("s,sl,ls,l;w0", none);
        sureDue("s,sl,ls,l;o0", none);
        sureDue("sll,lll,ls,s;t0", 2);
        sureDue("sll,lll,ls,s;o0", none);
        sureDue("lsl,lll,lls,s;w0", 5);
        sureDue("lsls,llll,lls,s;w0", none);
    }

    /** "from its PLACE on", up to PLACE 60 */
    private static void sureFromThePlaceOn() {
        DripSayings x = Check.withHouse("s,ls,lls,llls;t0,b1");
        int[] plain = {3, 2, 4, 3, 4, 3, 4, 3, 2, 6, 5, 4};
        int[] brass = {4, 3, 2, 4, 3, 4, 3, 4, 3, 2, 6, 5};
        for (int place = 0; place <= 60; place++) {
            check.due("sure from drip " + place, x.about(0, 4), plain[place % 12]);
            check.due("sure of brass from drip " + place, x.about(1, 4), brass[place % 12]);
            check.due("listen(0)", x.listen(0) >= 0 ? 1 : 0, place < 60 ? 1 : 0);
            x.listen(1);
        }
    }

    /** "its number", "FULL: there are 5" */
    private static void promise7UpToFive() {
        String[] taps = {"t0", "t0,b1", "t0,b1,e2"};
        for (int read = 1; read <= 3; read++) {
            DripSayings x = Check.withHouse("s,sl,lls,slll;" + taps[read - 1]);
            for (int number = read; number < 5; number++) {
                check.due("about(" + number + ", 0)", x.about(number, 0), DripSayings.UNKNOWN);
                check.due("tap(3, 3)", x.tap(3, 3), number);
                check.due("about(" + number + ", 0)", x.about(number, 0), 3);
                check.due("count(0)", x.count(0), number + 1);
            }
            check.refused(x, "tap(3, 3) above 5", () -> x.tap(3, 3), DripSayings.FULL);
            check.refused(x, "tap(-1, 3) above 5", () -> x.tap(-1, 3), DripSayings.OUTSIDE);
            check.refused(x, "tap(3, 4) above 5", () -> x.tap(3, 4), DripSayings.OUTSIDE);
            check.due("about(5, 0)", x.about(5, 0), DripSayings.UNKNOWN);
            check.due("count(0)", x.count(0), 5);
        }
    }

    /** "OUTSIDE: kind, saying (0 to 3)" */
    private static void promise7EachKindAndSaying() {
        for (int kind = -1; kind <= 5; kind++) {
            for (int saying = -1; saying <= 4; saying++) {
                boolean is = kind >= 0 && kind <= 4 && saying >= 0 && saying <= 3;
                DripSayings x = Check.withHouse("s,sl,lls,slll;t0");
                String call = "tap(" + kind + ", " + saying + ")";
                check.due(call, x.tap(kind, saying), is ? 1 : DripSayings.OUTSIDE);
                check.due("kind behind " + call, x.about(1, 0), is ? kind : DripSayings.UNKNOWN);
                check.due("saying behind " + call, x.about(1, 1), is ? saying : DripSayings.UNKNOWN);
                DripSayings none = new DripSayings();
                int want = is ? DripSayings.STATE : DripSayings.OUTSIDE;
                check.due(call + " without a house", none.tap(kind, saying), want);
                check.due("count(0) behind that", none.count(0), 0);
            }
        }
    }

    /** UNKNOWN: "a number names nothing" */
    private static void promise8FirstAndLastTap() {
        DripSayings x = Check.withHouse("s,sl,lls,slll;e3");
        for (int taps = 1; taps <= 5; taps++) {
            for (int tap = -1; tap <= 6; tap++) {
                boolean is = tap >= 0 && tap < taps;
                String call = "about(" + tap + ", ";
                check.due(call + "1)", x.about(tap, 1), is ? 3 : DripSayings.UNKNOWN);
                check.due(call + "-1)", x.about(tap, -1), is ? DripSayings.OUTSIDE : DripSayings.UNKNOWN);
                check.due(call + "9)", x.about(tap, 9), is ? DripSayings.OUTSIDE : DripSayings.UNKNOWN);
            }
            x.tap(0, 3);
        }
    }

    /** "All are TAPS; a BELL is BRASS, too" - and a BRASS one is no BELL */
    private static void promise9EachKind() {
        int none = DripSayings.NONE;
        int outside = DripSayings.OUTSIDE;
        int[][] want = {
            {outside, 0, none, none, none, none, outside}, {outside, 0, 0, none, none, none, outside},
            {outside, 0, none, 0, none, none, outside}, {outside, 0, none, none, 0, none, outside},
            {outside, 0, 0, none, none, 0, outside}};
        for (int kind = 0; kind < 5; kind++) {
            DripSayings x = Check.withHouse("s,sl,lls,slll;" + KINDS.charAt(kind) + "0");
            long before = x.digest();
            for (int as = -1; as <= 5; as++) {
                check.due("as(0, " + as + ") of kind " + kind, x.as(0, as), want[kind][as + 1]);
                check.due("as(1, " + as + ")", x.as(1, as), DripSayings.UNKNOWN);
            }
            check.due("digest() behind it", x.digest(), before);
        }
    }

    /** A DRIP's number is told from 0 on, not from the PLACE on. */
    private static void promise10FromDrip0On() {
        DripSayings x = Check.withHouse("s,sl,lls,slll;t3");
        for (int place = 0; place <= 60; place++) {
            check.due("drip(0, 0) at " + place, x.drip(0, 0), 0);
            check.due("drip(0, 99) at " + place, x.drip(0, 99), 1);
            check.due("drip(0, 96) at " + place, x.drip(0, 96), 0);
            check.due("place", x.about(0, 3), place);
            x.listen(0);
        }
    }

    /** "its PLACE grows by 1; 60 at most": of each kind, with a washer, too */
    private static void promise11UpToPlace60() {
        String[] want = {"slll", "llls", "ssls", "llll", "sssl"};
        for (int kind = 0; kind < 5; kind++) {
            DripSayings x = Check.withHouse("s,sl,lls,slll;" + KINDS.charAt(kind) + "3");
            boolean washer = kind % 2 == 1;
            x.washer(0, washer);
            for (int place = 0; place < 60; place++) {
                int drip = Check.beatOf(want[kind], place % 4);
                check.due("listen(0) at " + place, x.listen(0), washer ? 1 - drip : drip);
                check.due("place", x.about(0, 3), place + 1);
            }
            check.refused(x, "listen(0) at 60", () -> x.listen(0), DripSayings.STATE);
            check.due("place", x.about(0, 3), 60);
            check.due("count(4)", x.count(4), 61);
        }
    }

    private static void promise11EachTapItsPlace() {
        DripSayings x = Check.withHouse("s,sl,lls,slll;t0,b1,e2");
        x.tap(3, 3);
        x.tap(2, 3);
        for (int i = 0; i < 60; i++) x.listen(4);
        for (int tap = 0; tap < 5; tap++) {
            check.due("place of " + tap, x.about(tap, 3), tap == 4 ? 60 : 0);
            check.due("listen(" + tap + ")", x.listen(tap) < 0 ? 1 : 0, tap == 4 ? 1 : 0);
        }
        check.due("count(3)", x.count(3), 64);
        for (int i = 0; i < 59; i++) for (int tap = 0; tap < 4; tap++) x.listen(tap);
        for (int tap = 0; tap < 5; tap++) check.due("listen(" + tap + ") at 60", x.listen(tap), DripSayings.STATE);
        check.due("count(3), all at 60", x.count(3), 300);
        check.due("count(4), all at 60", x.count(4), 300);
    }

    /** "whether it had one (1, 0)", and it counts "also where it becomes what it was" */
    private static void promise12WhetherItHadOne() {
        for (int first = 0; first <= 1; first++) {
            for (int then = 0; then <= 1; then++) {
                DripSayings x = Check.withHouse("s,sl,lls,slll;t0,t1");
                String calls = "washer " + first + ", then " + then;
                check.due(calls, x.washer(0, first == 1), 0);
                check.due(calls, x.washer(0, then == 1), first);
                check.due("about(0, 2) behind " + calls, x.about(0, 2), then);
                check.due("drip(0, 0) behind " + calls, x.drip(0, 0), then);
                check.due("count(2) behind " + calls, x.count(2), then);
                check.due("count(4) behind " + calls, x.count(4), 2);
                check.due("about(1, 2) behind " + calls, x.about(1, 2), 0);
            }
        }
    }

    /** At PLACE 60 nothing more is heard, but a washer can be put in, and it can be taught. */
    private static void promise12AtTheLastPlace() {
        DripSayings x = Check.withHouse("s,sl,lls,slll;t0");
        for (int i = 0; i < 60; i++) x.listen(0);
        check.due("washer(0, true)", x.washer(0, true), 0);
        check.due("teach(0, 2)", x.teach(0, 2), 0);
        check.due("place", x.about(0, 3), 60);
        check.due("count(4)", x.count(4), 62);
        check.due("drip(0, 60)", x.drip(0, 60), 0);
    }

    /** "OUTSIDE: saying (0 to 3)", "which it said" */
    private static void promise13FirstAndLastSaying() {
        for (int from = 0; from <= 3; from++) {
            DripSayings x = Check.withHouse("s,sl,lls,slll;w" + from);
            for (int saying = -1; saying <= 4; saying++) {
                boolean is = saying >= 0 && saying <= 3;
                int said = x.about(0, 1);
                check.due("teach(0, " + saying + ")", x.teach(0, saying), is ? said : DripSayings.OUTSIDE);
                check.due("about(0, 1) behind it", x.about(0, 1), is ? saying : said);
                check.due("kind behind it", x.about(0, 0), 2);
            }
            check.due("count(4)", x.count(4), 4);
            check.due("teach(0, 3) again", x.teach(0, 3), 3);
            check.due("count(4), also where it becomes what it was", x.count(4), 5);
        }
    }

    /** "It says another SAYING from now on": its PLACE and WASHER stay, and the next drip is of the new one. */
    private static void promise13AtOnce() {
        DripSayings x = Check.withHouse("s,sl,lls,slll;t0");
        x.washer(0, true);
        for (int i = 0; i < 4; i++) x.listen(0);
        x.teach(0, 3);
        check.due("place", x.about(0, 3), 4);
        check.due("washer", x.about(0, 2), 1);
        check.due("listen(0), drip 4 of slll", x.listen(0), 1);
        check.due("listen(0), drip 5 of slll", x.listen(0), 0);
        x.teach(0, 2);
        check.due("listen(0), drip 6 of lls", x.listen(0), 0);
    }
}
