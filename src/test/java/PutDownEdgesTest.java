import java.util.Arrays;

/** AGREE, NEAR, what is PUT DOWN, NIGHTS (promises 14 to 18, and of 8) at their edges: a method for each sentence. */
public final class PutDownEdgesTest {
    private static final Check check = new Check();
    private static final int NONE = DripSayings.NONE;

    public static void main(String[] args) {
        promise14NoneAndAll();
        promise14FromThePlacesOn();
        promise14Refused();
        promise15EachKindAndSaying();
        promise15OfLikeOnesWithout();
        promise15FromDrip0On();
        promise16EightAtMost();
        promise16FirstAndLastDrip();
        promise16OfAnyPlace();
        promise8SaysAllAndNone();
        promise8SaysTheWasherThen();
        promise8LikelyNoneAndAllSlips();
        promise8LikelyOfLikeOnesTheLeast();
        promise8ListenFirstAndLast();
        promise8ListenOfLikeOnesTheLeast();
        promise8ListenOneAndNone();
        promise17EmptyAndFull();
        promise18FirstAndLast();
        promise18SeedWraps();
        promise18BehindPlace60();
        promise18ChangesNothing();
        check.end();
    }

    private static void listen(DripSayings x, int tap, int times) {
        for (int i = 0; i < times; i++) x.listen(tap);
    }

    /** "how many of the next 16 DRIPS are the same": none of them, all of them */
    private static void promise14NoneAndAll() {
        DripSayings x = Check.withHouse("s,l,ss,sl;t0,t1,t2");
        check.due("agree, none", x.agree(0, 1), 0);
        check.due("agree, all", x.agree(0, 2), 16);
        x.washer(0, true);
        check.due("agree, all by a washer", x.agree(0, 1), 16);
        check.due("agree, none by a washer", x.agree(2, 0), 0);
        x.washer(1, true);
        x.washer(0, false);
        check.due("agree, all by the other's washer", x.agree(1, 0), 16);
    }

    /** "each from its PLACE on": also where these are 60 and another one */
    private static void promise14FromThePlacesOn() {
        DripSayings x = Check.withHouse("s,l,sll,slll;t2,t3");
        listen(x, 0, 60);
        int[] want = {10, 10, 8, 8};
        for (int place = 0; place <= 60; place++) {
            check.due("agree at 60 and " + place, x.agree(0, 1), want[place % 4]);
            check.due("agree at " + place + " and 60", x.agree(1, 0), want[place % 4]);
            x.listen(1);
        }
        check.due("place of 0", x.about(0, 3), 60);
        check.due("place of 1", x.about(1, 3), 60);
        // the fourth long one is the 16th of the next drips, then the 17th would be another one
        DripSayings y = Check.withHouse("s,sssl,lsss,sl;t0,t1,t2");
        check.due("agree, the 16th drip is unlike", y.agree(0, 1), 12);
        check.due("agree, the 17th does not count", y.agree(0, 2), 12);
    }

    /** "UNKNOWN: a, b, or they are the same" */
    private static void promise14Refused() {
        DripSayings x = Check.withHouse("s,l,sll,slll;t2,t3,t3");
        for (int a = -1; a <= 3; a++) {
            for (int b = -1; b <= 3; b++) {
                boolean is = a >= 0 && a <= 2 && b >= 0 && b <= 2 && a != b;
                check.due("agree(" + a + ", " + b + ")", x.agree(a, b) == DripSayings.UNKNOWN ? 0 : 1, is ? 1 : 0);
            }
        }
        // two of one kind that say the same are not the same
        check.due("agree(1, 2)", x.agree(1, 2), 16);
    }

    /** "with which WASHER its DRIPS are less often unlike in 12 DRIPS": each kind of each saying to each saying */
    private static void promise15EachKindAndSaying() {
        int[][] washers = {
            {0, 0, 1, 1, 0, 0, 0, 0, 1, 0, 0, 0, 1, 0, 0, 0}, {0, 0, 1, 1, 0, 1, 0, 1, 1, 0, 1, 0, 1, 1, 0, 0},
            {0, 0, 1, 1, 0, 0, 1, 1, 0, 1, 0, 1, 0, 1, 1, 0}, {1, 0, 0, 0, 1, 0, 0, 0, 1, 0, 0, 0, 1, 0, 0, 0},
            {1, 0, 0, 0, 0, 0, 0, 0, 0, 0, 0, 1, 0, 0, 1, 0}};
        int[][] unlike = {
            {0, 6, 4, 3, 6, 0, 6, 3, 4, 6, 0, 5, 3, 3, 5, 0}, {0, 6, 4, 3, 6, 0, 6, 3, 4, 6, 4, 5, 3, 3, 5, 6},
            {0, 6, 4, 3, 0, 6, 4, 3, 4, 2, 4, 3, 3, 3, 5, 6}, {0, 6, 4, 3, 0, 6, 4, 3, 4, 6, 0, 5, 0, 6, 4, 3},
            {0, 6, 4, 3, 6, 0, 6, 3, 4, 6, 4, 5, 3, 3, 5, 6}};
        DripSayings x = Check.withHouse("s,sl,lls,slll;t0");
        for (int kind = 1; kind < 5; kind++) x.tap(kind, 0);
        for (int kind = 0; kind < 5; kind++) {
            for (int own = 0; own < 4; own++) {
                x.teach(kind, own);
                for (int saying = 0; saying < 4; saying++) {
                    String call = "near of kind " + kind + ", which says " + own + ", to " + saying;
                    check.due(call, x.near(kind, saying, 0), washers[kind][4 * own + saying]);
                    check.due(call + ", how often", x.near(kind, saying, 1), unlike[kind][4 * own + saying]);
                }
            }
        }
    }

    /** "of like ones without": 6 of the 12 are unlike either way */
    private static void promise15OfLikeOnesWithout() {
        DripSayings x = Check.withHouse("s,sl,ssll,l;t0,t1,t2");
        for (int tap = 0; tap < 3; tap++) {
            for (int washer = 0; washer <= 1; washer++) {
                x.washer(tap, washer == 1);
                for (int saying = 0; saying < 3; saying++) {
                    String call = "near(" + tap + ", " + saying + ", ";
                    check.due(call + "0)", x.near(tap, saying, 0), 0);
                    check.due(call + "1)", x.near(tap, saying, 1), saying == tap ? 0 : 6);
                }
            }
        }
        check.due("near(0, 3, 0)", x.near(0, 3, 0), 1);
        check.due("near(0, 3, 1)", x.near(0, 3, 1), 0);
    }

    /** "from 0 on", "in place of what it has": neither its PLACE nor its WASHER matters */
    private static void promise15FromDrip0On() {
        DripSayings x = Check.withHouse("s,sl,lls,slll;w2");
        int[] washers = {0, 1, 0, 1};
        int[] unlike = {4, 2, 4, 3};
        for (int place = 0; place <= 60; place++) {
            x.washer(0, place % 3 == 1);
            int saying = place % 4;
            check.due("near to " + saying + " at " + place, x.near(0, saying, 0), washers[saying]);
            check.due("near to " + saying + " at " + place + ", how often", x.near(0, saying, 1), unlike[saying]);
            x.listen(0);
        }
    }

    /** "8 at most; the same DRIP again, too": of all taps together */
    private static void promise16EightAtMost() {
        for (int taps = 1; taps <= 3; taps++) {
            DripSayings x = Check.withHouse("s,sl,lls,slll;t0,b1,e2");
            for (int i = 0; i < 8; i++) {
                check.due("count(5)", x.count(5), i);
                check.due("put of " + taps + " taps", x.put(i % taps, 0, true), i + 1);
            }
            check.due("count(5)", x.count(5), 8);
            for (int tap = 0; tap < 3; tap++) {
                int put = tap;
                check.refused(x, "put(" + tap + ", 0, true) above 8", () -> x.put(put, 0, true), DripSayings.FULL);
            }
            check.due("changes", x.count(4), 0);
        }
    }

    /** "that DRIP so many (0 to 59)" */
    private static void promise16FirstAndLastDrip() {
        for (int drip = -1; drip <= 60; drip++) {
            boolean is = drip >= 0 && drip <= 59;
            DripSayings x = Check.withHouse("ssss,slll,ssls,sssl;t0,w0");
            check.due("put(0, " + drip + ", true)", x.put(0, drip, true), is ? 1 : DripSayings.OUTSIDE);
            int[] says = {0, 2, 2 + 4, 2 + 8};
            check.due("says behind put of " + drip, x.about(0, 5), is ? says[drip % 4] : 15);
            check.due("put(1, " + drip + ", false)", x.put(1, drip, false), is ? 2 : DripSayings.OUTSIDE);
            // worn: drips 2, 6, .. are long for the second and the third
            check.due("says of a worn one", x.about(1, 5), is && drip % 4 == 2 ? 1 + 8 : 15);
        }
    }

    /** What is put down need not have been heard. */
    private static void promise16OfAnyPlace() {
        DripSayings x = Check.withHouse("s,sl,lls,slll;t0");
        check.due("put of drip 59 at 0", x.put(0, 59, true), 1);
        check.due("place", x.about(0, 3), 0);
        listen(x, 0, 60);
        check.due("put of drip 0 at 60", x.put(0, 0, false), 2);
        check.due("place", x.about(0, 3), 60);
        check.due("says", x.about(0, 5), 2 + 8);
    }

    /** "as bits": all where nothing is put down, each one alone, none where it can't be so */
    private static void promise8SaysAllAndNone() {
        for (int saying = 0; saying < 4; saying++) {
            DripSayings x = Check.withHouse("ss,sl,ls,ll;t0,t0");
            check.due("says of nothing", x.about(0, 5), 15);
            x.put(0, 0, saying >= 2);
            check.due("says behind one", x.about(0, 5), saying >= 2 ? 4 + 8 : 1 + 2);
            x.put(0, 1, saying % 2 == 1);
            check.due("says behind two", x.about(0, 5), 1 << saying);
            x.put(0, 1, saying % 2 == 0);
            check.due("says behind what can't be", x.about(0, 5), 0);
            check.due("says of the other", x.about(1, 5), 15);
        }
    }

    /** "with its WASHER as it was then": the same drip, put down without and with it, tells the same */
    private static void promise8SaysTheWasherThen() {
        DripSayings x = Check.withHouse("ss,sl,ls,ll;t0,e0");
        for (int tap = 0; tap < 2; tap++) {
            int want = tap == 0 ? 2 + 8 : 1 + 2;
            x.put(tap, 1, true);
            x.washer(tap, true);
            check.due("says, a washer since", x.about(tap, 5), want);
            x.put(tap, 1, false);
            check.due("says, put with a washer", x.about(tap, 5), want);
            x.washer(tap, false);
            check.due("says, out again", x.about(tap, 5), want);
            check.due("slips, out again", x.about(tap, 7), 0);
            x.put(tap, 1, false);
            check.due("says, put without one", x.about(tap, 5), 0);
        }
    }

    /** "how many": from none up to all 8 */
    private static void promise8LikelyNoneAndAllSlips() {
        DripSayings x = Check.withHouse("s,s,s,s;t0");
        for (int i = 0; i <= 8; i++) {
            check.due("likely", x.about(0, 6), 0);
            check.due("slips of " + i, x.about(0, 7), i);
            check.due("says", x.about(0, 5), i == 0 ? 15 : 0);
            x.put(0, 59, true);
        }
        DripSayings y = Check.withHouse("s,s,s,l;t0");
        for (int i = 0; i <= 8; i++) {
            check.due("likely, the last alone has none", y.about(0, 6), i == 0 ? 0 : 3);
            check.due("slips", y.about(0, 7), 0);
            y.put(0, 59, true);
        }
    }

    /** "of like ones the least" */
    private static void promise8LikelyOfLikeOnesTheLeast() {
        DripSayings x = Check.withHouse("s,l,s,l;t0");
        int[] likely = {1, 0, 1, 0};
        int[] slips = {0, 1, 1, 2};
        for (int i = 0; i < 4; i++) {
            x.put(0, i, i % 2 == 0);
            check.due("likely behind " + (i + 1), x.about(0, 6), likely[i]);
            check.due("slips behind " + (i + 1), x.about(0, 7), slips[i]);
        }
        DripSayings y = Check.withHouse("s,sl,ls,ls;t0");
        y.put(0, 0, true);
        check.due("likely of the last two", y.about(0, 6), 2);
    }

    /** "for which of its next 8 DRIPS (0: the next one; behind PLACE 60, too)": from 0 up to 7, not 8 */
    private static void promise8ListenFirstAndLast() {
        // two are long at 6, 18, 30, ..; one alone at 0, 2, 10, 12, ..
        DripSayings x = Check.withHouse("s,lss,ssls,s;w0");
        int[] want = {6, 5, 4, 3, 2, 1, 0, 3, 2, 1, 0, 7};
        for (int place = 0; place <= 60; place++) {
            check.due("listen at " + place, x.about(0, 8), want[place % 12]);
            x.listen(0);
        }
        DripSayings y = Check.withHouse("s,sssl,ssls,ssll;t0");
        listen(y, 0, 60);
        check.due("listen at 60, drip 62", y.about(0, 8), 2);
    }

    /** "of like ones the least": by all like ones the next; what is gone does not matter any more */
    private static void promise8ListenOfLikeOnesTheLeast() {
        DripSayings x = Check.withHouse("s,s,s,s;t0");
        check.due("listen, all like", x.about(0, 8), 0);
        DripSayings y = Check.withHouse("ssss,slls,slsl,ssll;t0");
        check.due("listen, two and two at 1, 2 and 3", y.about(0, 8), 1);
        y.put(0, 1, true);
        check.due("listen, one and one at 2 and 3", y.about(0, 8), 2);
        y.put(0, 0, false);
        check.due("listen, no other is gone", y.about(0, 8), 2);
        y.washer(0, true);
        check.due("listen with a washer", y.about(0, 8), 2);
    }

    /** "none, if there are none" */
    private static void promise8ListenOneAndNone() {
        DripSayings x = Check.withHouse("s,sl,ls,l;t0,t0");
        x.put(0, 0, false);
        x.put(0, 1, true);
        check.due("says", x.about(0, 5), 2);
        check.due("listen of one", x.about(0, 8), 0);
        x.put(0, 0, true);
        check.due("says", x.about(0, 5), 0);
        check.due("listen of none", x.about(0, 8), NONE);
        check.due("listen of the other", x.about(1, 8), 0);
        x.forget();
        check.due("listen behind forget()", x.about(0, 8), 0);
    }

    /** "how much was": nothing, one, all 8 */
    private static void promise17EmptyAndFull() {
        DripSayings x = Check.withHouse("s,sl,ls,l;t0,t0");
        long before = x.digest();
        for (int put : new int[] {0, 1, 8, 0}) {
            for (int i = 0; i < put; i++) x.put(i % 2, 59 - i, i % 3 == 0);
            check.due("forget() of " + put, x.forget(), put);
            check.due("digest() behind it", x.digest(), before);
            check.due("forget() again", x.forget(), 0);
        }
        for (int i = 1; i <= 8; i++) check.due("put " + i + " behind it", x.put(0, 0, true), i);
        check.due("put 9", x.put(0, 0, true), DripSayings.FULL);
    }

    /** "drips (1 to 40), seed (0 at least)": from one to five taps */
    private static void promise18FirstAndLast() {
        String[] taps = {"lls", "llls", "ssls", "slll", "ll"};
        DripSayings x = Check.withHouse("s,sl,lls,slll;t2,b3,w3");
        for (int count = 3; count <= 5; count++) {
            String[] some = Arrays.copyOf(taps, count);
            for (int seed : new int[] {0, 1, 2147483646, 2147483647}) {
                for (int drips : new int[] {1, 2, 39, 40}) check.nightsDue(x, some, drips, seed);
            }
            x.tap(count == 3 ? 0 : 3, count == 3 ? 3 : 1);
        }
        DripSayings one = Check.withHouse("s,sl,lls,slll;t2");
        for (int drips = 0; drips <= 41; drips++) {
            if (drips >= 1 && drips <= 40) check.nightsDue(one, new String[] {"lls"}, drips, 1061);
            else check.due("nights(" + drips + ", 0, 0)", one.nights(drips, 0, 0), DripSayings.OUTSIDE);
        }
        for (int what = -1; what <= 3; what++) {
            boolean is = what >= 0 && what <= 2;
            check.due("nights(1, 0, " + what + ")", one.nights(1, 0, what) >= 0 ? 1 : 0, is ? 1 : 0);
        }
    }

    /** "its rest by 2 to the 31": the product wraps around no int and no long */
    private static void promise18SeedWraps() {
        DripSayings x = Check.withHouse("l,l,l,l;t0");
        int[][] want = {
            {0, 12345, 1}, {1, 1103527590, 0}, {2, 59559187, 0}, {65536, 1315778617, 0},
            {1073741824, 1073754169, 1}, {2147483646, 2087949151, 0}, {2147483647, 1043980748, 0}};
        for (int[] row : want) {
            check.due("seed behind " + row[0], x.nights(1, row[0], 2), row[1]);
            check.due("slips by " + row[0], x.nights(1, row[0], 1), row[2]);
            check.due("long ones by " + row[0], x.nights(1, row[0], 0), 1 - row[2]);
        }
        check.due("seed behind 40", x.nights(40, 2147483647, 2), 998553047);
    }

    /** "so many DRIPS of each TAP from its PLACE on": also of those behind PLACE 60, up to DRIP 99 */
    private static void promise18BehindPlace60() {
        DripSayings x = Check.withHouse("s,sl,lls,slll;t2,b3,w3");
        for (int tap = 0; tap < 3; tap++) listen(x, tap, 59);
        for (int drips : new int[] {1, 2, 40}) check.nightsDue(x, new String[] {"sll", "slll", "sssl"}, drips, 7);
        for (int tap = 0; tap < 3; tap++) x.listen(tap);
        for (int drips : new int[] {1, 2, 40}) check.nightsDue(x, new String[] {"lls", "llls", "ssls"}, drips, 7);
        x.washer(2, true);
        for (int drips : new int[] {1, 2, 40}) check.nightsDue(x, new String[] {"lls", "llls", "llsl"}, drips, 7);
    }

    /** "as they would be": nothing is heard, nothing is put down */
    private static void promise18ChangesNothing() {
        DripSayings x = Check.withHouse("s,sl,lls,slll;t2,b3,w3");
        long before = x.digest();
        int first = x.nights(40, 5, 0);
        for (int what = 0; what <= 2; what++) x.nights(40, 5, what);
        check.due("digest() behind it", x.digest(), before);
        check.due("place", x.about(2, 3), 0);
        check.due("count(5)", x.count(5), 0);
        check.due("the same by the same seed", x.nights(40, 5, 0), first);
    }
}
