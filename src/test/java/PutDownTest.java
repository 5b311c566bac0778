/** Promises 14 to 18, and of promise 8 what is told by what is put down. */
public final class PutDownTest {
    private static final Check check = new Check();
    private static final int[] STRANGE = {-1, Integer.MIN_VALUE, Integer.MAX_VALUE};

    public static void main(String[] args) {
        promise14Agree();
        promise15Near();
        promise15NearRefused();
        promise16Put();
        promise8Says();
        promise8SaysByTheWasherThen();
        promise8Likely();
        promise8Listen();
        promise8ListenAtMostEightAhead();
        promise8ListenBehindTheLastPlace();
        promise17Forget();
        promise18Nights();
        promise18NightsRefused();
        check.end();
    }

    private static void promise14Agree() {
        DripSayings x = Check.withHouse("s,sl,lls,l;t0,t1,t2");
        check.due("agree(0, 1)", x.agree(0, 1), 8);
        check.due("agree(1, 0)", x.agree(1, 0), 8);
        // llsllsllsllsllsl has 5 shorts
        check.due("agree(0, 2)", x.agree(0, 2), 5);
        x.listen(2);
        check.due("agree(0, 2) from drip 1", x.agree(0, 2), 5);
        x.listen(2);
        check.due("agree(0, 2) from drip 2", x.agree(0, 2), 6);
        x.tap(0, 1);
        check.due("agree(1, 3)", x.agree(1, 3), 16);
        x.listen(3);
        check.due("agree(1, 3) shifted", x.agree(1, 3), 0);
        x.washer(3, true);
        check.due("agree(1, 3) shifted, with a washer", x.agree(1, 3), 16);
        check.refused(x, "agree(0, 0)", () -> x.agree(0, 0), DripSayings.UNKNOWN);
        check.refused(x, "agree(4, 0)", () -> x.agree(4, 0), DripSayings.UNKNOWN);
        check.refused(x, "agree(0, 4)", () -> x.agree(0, 4), DripSayings.UNKNOWN);
        for (int tap : STRANGE) {
            check.refused(x, "agree(" + tap + ", 0)", () -> x.agree(tap, 0), DripSayings.UNKNOWN);
            check.refused(x, "agree(0, " + tap + ")", () -> x.agree(0, tap), DripSayings.UNKNOWN);
        }
    }

    private static void nearDue(DripSayings x, int tap, int saying, int washer, int often) {
        check.due("near(" + tap + ", " + saying + ", 0)", x.near(tap, saying, 0), washer);
        check.due("near(" + tap + ", " + saying + ", 1)", x.near(tap, saying, 1), often);
    }

    private static void promise15Near() {
        DripSayings x = Check.withHouse("s,sl,lls,l;t0,e2,w3");
        nearDue(x, 0, 0, 0, 0);
        nearDue(x, 0, 1, 0, 6);
        nearDue(x, 0, 2, 1, 4);
        nearDue(x, 0, 3, 1, 0);
        // the bell of lls: lss lss lss lss
        nearDue(x, 1, 0, 0, 4);
        nearDue(x, 1, 2, 0, 4);
        nearDue(x, 1, 3, 1, 4);
        // the worn one of l: lsls.., which is sl with each beat the other one
        nearDue(x, 2, 1, 1, 0);
        nearDue(x, 2, 0, 0, 6);
        x.washer(0, true);
        x.listen(0);
        // the washer that is in, and the place, do not matter
        nearDue(x, 0, 0, 0, 0);
        nearDue(x, 0, 2, 1, 4);
        nearDue(x, 0, 3, 1, 0);
    }

    private static void promise15NearRefused() {
        DripSayings x = Check.withHouse("s,sl,lls,l;t0,e2,w3");
        for (int strange : new int[] {-1, 4, Integer.MIN_VALUE, Integer.MAX_VALUE}) {
            check.refused(x, "near(" + strange + ", 0, 0)", () -> x.near(strange, 0, 0), DripSayings.UNKNOWN);
            check.refused(x, "near(" + strange + ", 4, 2)", () -> x.near(strange, 4, 2), DripSayings.UNKNOWN);
            check.refused(x, "near(0, " + strange + ", 0)", () -> x.near(0, strange, 0), DripSayings.OUTSIDE);
            check.refused(x, "near(0, 0, " + strange + ")", () -> x.near(0, 0, strange), DripSayings.OUTSIDE);
        }
        check.refused(x, "near(3, 0, 0)", () -> x.near(3, 0, 0), DripSayings.UNKNOWN);
        check.refused(x, "near(0, 0, 2)", () -> x.near(0, 0, 2), DripSayings.OUTSIDE);
    }

    private static void promise16Put() {
        DripSayings x = Check.withHouse("s,sl,lls,l;t0,e2,w3");
        for (int drip : new int[] {-1, 60, Integer.MIN_VALUE, Integer.MAX_VALUE}) {
            check.refused(x, "put(0, " + drip + ", true)", () -> x.put(0, drip, true), DripSayings.OUTSIDE);
            check.refused(x, "put(3, " + drip + ", true)", () -> x.put(3, drip, true), DripSayings.UNKNOWN);
        }
        for (int tap : STRANGE) {
            check.refused(x, "put(" + tap + ", 0, true)", () -> x.put(tap, 0, true), DripSayings.UNKNOWN);
        }
        check.due("put(0, 0, true)", x.put(0, 0, true), 1);
        check.due("put(0, 0, true) again", x.put(0, 0, true), 2);
        check.due("put(0, 0, false)", x.put(0, 0, false), 3);
        check.due("put(1, 59, true)", x.put(1, 59, true), 4);
        for (int i = 5; i <= 8; i++) check.due("put " + i, x.put(2, i, true), i);
        check.refused(x, "put above 8", () -> x.put(0, 0, true), DripSayings.FULL);
        check.refused(x, "put above 8, outside", () -> x.put(0, 60, true), DripSayings.OUTSIDE);
        check.refused(x, "put above 8, unknown", () -> x.put(3, 60, true), DripSayings.UNKNOWN);
        check.due("count(5)", x.count(5), 8);
        check.due("count(4)", x.count(4), 0);
    }

    private static void promise8Says() {
        DripSayings x = Check.withHouse("s,sl,lls,l;t0,b0,w0");
        x.tap(4, 0);
        for (int tap = 0; tap < 4; tap++) check.due("says of " + tap, x.about(tap, 5), 15);
        x.put(0, 0, true);
        check.due("says, drip 0 long", x.about(0, 5), 4 + 8);
        check.due("says of another", x.about(1, 5), 15);
        x.put(0, 2, false);
        check.due("says, drip 2 short", x.about(0, 5), 4);
        x.put(0, 0, false);
        check.due("says of what can't be", x.about(0, 5), 0);
        x.put(1, 0, true);
        // brass: s.., ls.., sll.., l..
        check.due("says of brass", x.about(1, 5), 2 + 8);
        x.put(2, 1, false);
        check.due("says of worn", x.about(2, 5), 15);
        x.put(2, 2, false);
        // worn: s, s, s, l at drip 2
        check.due("says of worn, drip 2", x.about(2, 5), 1 + 2 + 4);
        x.put(3, 59, true);
        // a bell at 59: l; 59 % 2 = 1, backwards s, so l; 59 % 3 = 2, backwards l, so s; s
        check.due("says of a bell, drip 59", x.about(3, 5), 1 + 2);
        x.teach(0, 3);
        check.due("says does not know what it says", x.about(1, 5), 2 + 8);
    }

    private static void promise8SaysByTheWasherThen() {
        DripSayings x = Check.withHouse("s,sl,lls,l;t0,b0");
        x.put(0, 0, true);
        x.washer(0, true);
        check.due("says, a washer since", x.about(0, 5), 4 + 8);
        x.put(0, 2, true);
        // with the washer: drip 2 is l, l, l, s
        check.due("says, put with a washer", x.about(0, 5), 4);
        x.washer(0, false);
        check.due("says, the washer out since", x.about(0, 5), 4);
    }

    private static void promise8Likely() {
        DripSayings x = Check.withHouse("s,sl,lls,l;t3,b0,t2");
        check.due("likely of nothing", x.about(0, 6), 0);
        check.due("slips of nothing", x.about(0, 7), 0);
        x.put(0, 0, true);
        check.due("likely, of like ones the least", x.about(0, 6), 2);
        check.due("slips", x.about(0, 7), 0);
        x.put(0, 0, true);
        x.put(0, 0, false);
        x.put(0, 2, true);
        // slips: s 3, sl 3, lls 2, l 1
        check.due("likely", x.about(0, 6), 3);
        check.due("slips, the same drip again", x.about(0, 7), 1);
        check.due("says", x.about(0, 5), 0);
        check.due("likely of another", x.about(1, 6), 0);
        x.put(1, 0, true);
        x.put(1, 1, false);
        // brass: ss, ls, sl, ll
        check.due("likely of brass", x.about(1, 6), 1);
        check.due("slips of brass", x.about(1, 7), 0);
        x.put(2, 1, true);
        x.put(2, 1, false);
        check.due("likely, all slip once", x.about(2, 6), 0);
        check.due("slips, all once", x.about(2, 7), 1);
        DripSayings long4 = Check.withHouse("l,l,l,l;t0");
        long4.put(0, 0, false);
        check.due("likely, where none can say it", long4.about(0, 6), 0);
        check.due("slips, where none can say it", long4.about(0, 7), 1);
    }

    private static void promise8Listen() {
        // drips: ssssssss, sssl sssl, ssls ssls, ssll ssll: at 2 and 3 two and two
        DripSayings x = Check.withHouse("s,sssl,ssls,ssll;t0,t0,b0");
        check.due("listen of four", x.about(0, 8), 2);
        x.listen(0);
        check.due("listen from drip 1", x.about(0, 8), 1);
        x.listen(0);
        check.due("listen from drip 2", x.about(0, 8), 0);
        x.washer(0, true);
        check.due("listen with a washer", x.about(0, 8), 0);
        x.put(1, 2, false);
        check.due("listen of 0 and 1", x.about(1, 8), 3);
        x.put(1, 3, true);
        check.due("listen of one", x.about(1, 8), 0);
        x.put(1, 3, false);
        check.due("listen of none", x.about(1, 8), DripSayings.NONE);
        // brass: ssss, lsss, slss, llss
        check.due("listen of brass", x.about(2, 8), 0);
        DripSayings like = Check.withHouse("s,s,s,s;t0");
        check.due("listen of all like", like.about(0, 8), 0);
        DripSayings far = Check.withHouse("l,lll,lsss,lss;t0");
        far.put(0, 1, false);
        // lsss lsss and lss lss ls are left
        check.due("listen of 2 and 3", far.about(0, 8), 3);
    }

    private static void promise8ListenAtMostEightAhead() {
        // worn, the second is long at 0, 6, .., the third at 2, 6, ..: both at 6 and 18 alone
        DripSayings x = Check.withHouse("s,lss,ssls,s;w0");
        for (int i = 0; i < 10; i++) x.listen(0);
        check.due("listen, the best one is 8 ahead", x.about(0, 8), 0);
        x.listen(0);
        check.due("listen, the best one is 7 ahead", x.about(0, 8), 7);
    }

    private static void promise8ListenBehindTheLastPlace() {
        DripSayings x = Check.withHouse("s,sssl,ssls,ssll;t0,t0");
        for (int i = 0; i < 60; i++) x.listen(0);
        check.due("listen at place 60", x.about(0, 8), 2);
        check.due("sure at place 60", x.about(0, 4), 4);
        check.due("agree at place 60", x.agree(0, 1), 16);
        for (int i = 0; i < 58; i++) x.listen(1);
        check.due("listen at place 58", x.about(1, 8), 0);
    }

    private static void promise17Forget() {
        DripSayings x = Check.withHouse("s,sl,lls,l;t0,b0");
        x.put(0, 0, true);
        x.put(1, 0, true);
        check.due("forget()", x.forget(), 2);
        check.due("forget() again", x.forget(), 0);
        check.due("count(5)", x.count(5), 0);
        check.due("says", x.about(0, 5), 15);
        check.due("put behind it", x.put(0, 1, true), 1);
        check.due("says of 1", x.about(1, 5), 15);
        check.due("count(4)", x.count(4), 0);
        check.due("without a house", new DripSayings().forget(), 0);
    }

    private static void promise18Nights() {
        DripSayings x = Check.withHouse("s,sl,lls,l;t0,t3,b2");
        long before = x.digest();
        int[] seeds = {0, 1, 7, 621, 65535, 2147483647};
        int[] nights = {1, 2, 13, 40};
        String[] taps = {"s", "l", "sll"};
        for (int seed : seeds) for (int drips : nights) check.nightsDue(x, taps, drips, seed);
        check.due("digest() behind nights", x.digest(), before);
        x.listen(2);
        x.washer(0, true);
        String[] then = {"l", "l", "lls"};
        for (int seed : seeds) check.nightsDue(x, then, 40, seed);
        // one tap that says long, one night of one drip: 12345 by 65536 is 0, so a slip
        DripSayings one = Check.withHouse("l,l,l,l;t0");
        check.due("nights(1, 0, 0)", one.nights(1, 0, 0), 0);
        check.due("nights(1, 0, 1)", one.nights(1, 0, 1), 1);
        check.due("nights(1, 0, 2)", one.nights(1, 0, 2), 12345);
        check.due("nights(1, 1, 2)", one.nights(1, 1, 2), 1103527590);
        check.due("nights(1, 1, 1)", one.nights(1, 1, 1), 1103527590 / 65536 % 8 == 0 ? 1 : 0);
    }

    private static void promise18NightsRefused() {
        DripSayings x = Check.withHouse("s,sl,lls,l;t0,t3,b2");
        for (int drips : new int[] {0, -1, 41, Integer.MIN_VALUE, Integer.MAX_VALUE}) {
            check.refused(x, "nights(" + drips + ", 0, 0)", () -> x.nights(drips, 0, 0), DripSayings.OUTSIDE);
        }
        for (int seed : new int[] {-1, Integer.MIN_VALUE}) {
            check.refused(x, "nights(1, " + seed + ", 0)", () -> x.nights(1, seed, 0), DripSayings.OUTSIDE);
        }
        for (int what : new int[] {-1, 3, Integer.MIN_VALUE, Integer.MAX_VALUE}) {
            check.refused(x, "nights(1, 0, " + what + ")", () -> x.nights(1, 0, what), DripSayings.OUTSIDE);
        }
        DripSayings none = new DripSayings();
        check.refused(none, "nights without a house", () -> none.nights(40, 0, 2), DripSayings.STATE);
        check.refused(none, "nights outside, without a house", () -> none.nights(41, 0, 2), DripSayings.OUTSIDE);
    }
}
