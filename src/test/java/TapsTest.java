/** Promises 7 to 13: taps, what they drip, washers. */
public final class TapsTest {
    private static final Check check = new Check();
    private static final int[] STRANGE = {-1, Integer.MIN_VALUE, Integer.MAX_VALUE};

    public static void main(String[] args) {
        promise7Tap();
        promise8AboutPlain();
        promise8Sure();
        promise8AboutRefused();
        promise9As();
        promise10DripByKind();
        promise10DripRefused();
        promise11Listen();
        promise12Washer();
        promise13Teach();
        check.end();
    }

    private static void promise7Tap() {
        DripSayings x = Check.withHouse("s,ls,lls,llls;t0");
        for (int kind : new int[] {-1, 5, Integer.MIN_VALUE, Integer.MAX_VALUE}) {
            check.refused(x, "tap(" + kind + ", 0)", () -> x.tap(kind, 0), DripSayings.OUTSIDE);
        }
        for (int saying : new int[] {-1, 4, Integer.MIN_VALUE, Integer.MAX_VALUE}) {
            check.refused(x, "tap(0, " + saying + ")", () -> x.tap(0, saying), DripSayings.OUTSIDE);
        }
        check.due("tap(4, 3)", x.tap(4, 3), 1);
        check.due("tap(0, 0)", x.tap(0, 0), 2);
        check.due("tap(3, 1)", x.tap(3, 1), 3);
        check.due("tap(1, 2)", x.tap(1, 2), 4);
        check.due("about(1, 0)", x.about(1, 0), 4);
        check.due("about(1, 1)", x.about(1, 1), 3);
        check.due("about(4, 2)", x.about(4, 2), 0);
        check.due("about(4, 3)", x.about(4, 3), 0);
        check.due("count(0)", x.count(0), 5);
        check.due("count(4)", x.count(4), 0);
        check.refused(x, "tap(0, 0) above 5", () -> x.tap(0, 0), DripSayings.FULL);
        check.refused(x, "tap(5, 0) above 5", () -> x.tap(5, 0), DripSayings.OUTSIDE);
        DripSayings none = new DripSayings();
        check.refused(none, "tap(0, 0) without a house", () -> none.tap(0, 0), DripSayings.STATE);
        check.refused(none, "tap(5, 0) without a house", () -> none.tap(5, 0), DripSayings.OUTSIDE);
    }

    private static void promise8AboutPlain() {
        DripSayings x = Check.withHouse("s,ls,lls,llls;e3,w1");
        int[] want = {4, 3, 0, 0};
        for (int what = 0; what < 4; what++) check.due("about(0, " + what + ")", x.about(0, what), want[what]);
        x.washer(1, true);
        x.listen(1);
        x.listen(1);
        x.teach(1, 2);
        int[] then = {2, 2, 1, 2};
        for (int what = 0; what < 4; what++) check.due("about(1, " + what + ")", x.about(1, what), then[what]);
        check.due("about(0, 3)", x.about(0, 3), 0);
    }

    private static void promise8Sure() {
        // ssss.. lsls.. llsl.. llls..: the last two are told apart by the third drip
        DripSayings x = Check.withHouse("s,ls,lls,llls;t0,b0,w0");
        check.due("sure of a plain tap", x.about(0, 4), 3);
        // backwards ssss.., slsl.., slls.., slll..: the last two are told apart by the fourth drip
        check.due("sure of a brass tap", x.about(1, 4), 4);
        // worn, ls and llls are both lsls..
        check.due("sure of a worn tap", x.about(2, 4), DripSayings.NONE);
        x.washer(0, true);
        check.due("sure with a washer", x.about(0, 4), 3);
        x.listen(0);
        // from drip 1: ssss, slsl, lsll, llsl
        check.due("sure from drip 1", x.about(0, 4), 2);
        DripSayings same = Check.withHouse("s,ls,lls,lsls;t0");
        check.due("sure, of like ones", same.about(0, 4), DripSayings.NONE);
        DripSayings first = Check.withHouse("sl,ls,llls,ssss;t0");
        check.due("sure by two drips", first.about(0, 4), 2);
        // worn, from drip 1 on: long at 4, 10, ..; at 2, 6, ..; at 4, 8, ..; never: two are told apart by drip 8
        DripSayings worn = Check.withHouse("sls,ssls,lsss,s;w0");
        worn.listen(0);
        check.due("sure of a worn tap from drip 1", worn.about(0, 4), 8);
    }

    private static void promise8AboutRefused() {
        DripSayings x = Check.withHouse("s,ls,lls,llls;e3,w1");
        for (int tap : new int[] {-1, 2, Integer.MIN_VALUE, Integer.MAX_VALUE}) {
            check.refused(x, "about(" + tap + ", 0)", () -> x.about(tap, 0), DripSayings.UNKNOWN);
            check.refused(x, "about(" + tap + ", 9)", () -> x.about(tap, 9), DripSayings.UNKNOWN);
        }
        for (int what : new int[] {-1, 9, Integer.MIN_VALUE, Integer.MAX_VALUE}) {
            check.refused(x, "about(1, " + what + ")", () -> x.about(1, what), DripSayings.OUTSIDE);
        }
    }

    private static void promise9As() {
        DripSayings x = Check.withHouse("s,ls,lls,llls;t0,b1,w2");
        x.tap(3, 0);
        x.tap(4, 0);
        for (int tap = 0; tap < 5; tap++) {
            for (int kind = 0; kind < 5; kind++) {
                boolean is = kind == 0 || kind == tap || tap == 4 && kind == 1;
                check.due("as(" + tap + ", " + kind + ")", x.as(tap, kind), is ? tap : DripSayings.NONE);
            }
        }
        for (int tap : new int[] {-1, 5, Integer.MIN_VALUE, Integer.MAX_VALUE}) {
            check.refused(x, "as(" + tap + ", 0)", () -> x.as(tap, 0), DripSayings.UNKNOWN);
            check.refused(x, "as(" + tap + ", 5)", () -> x.as(tap, 5), DripSayings.UNKNOWN);
        }
        for (int kind : new int[] {-1, 5, Integer.MIN_VALUE, Integer.MAX_VALUE}) {
            check.refused(x, "as(0, " + kind + ")", () -> x.as(0, kind), DripSayings.OUTSIDE);
        }
    }

    private static void dripsDue(String name, DripSayings x, int tap, String want) {
        for (int i = 0; i < want.length(); i++) {
            check.due(name + ": drip(" + tap + ", " + i + ")", x.drip(tap, i), want.charAt(i) == 'l' ? 1 : 0);
        }
    }

    private static void promise10DripByKind() {
        DripSayings x = Check.withHouse("sll,ssl,l,slss;t0,b0,w0");
        x.tap(3, 1);
        x.tap(4, 0);
        String[] want = {"sllsllsll", "llsllslls", "sslslsssl", "lsllsllsl", "sslsslssl"};
        for (int tap = 0; tap < 5; tap++) dripsDue("without a washer", x, tap, want[tap]);
        String[] washed = {"lsslsslss", "sslsslssl", "llslsllls", "slsslssls", "llsllslls"};
        for (int tap = 0; tap < 5; tap++) {
            x.washer(tap, true);
            dripsDue("with a washer", x, tap, washed[tap]);
            x.washer(tap, false);
            dripsDue("without it again", x, tap, want[tap]);
        }
        DripSayings one = Check.withHouse("l,s,sl,sl;t0,w0,o1");
        dripsDue("plain, one beat", one, 0, "llll");
        dripsDue("worn, one beat", one, 1, "lsls");
        dripsDue("old, one beat", one, 2, "llll");
        one.tap(4, 0);
        dripsDue("bell, one beat", one, 3, "ssss");
    }

    private static void promise10DripRefused() {
        DripSayings x = Check.withHouse("sll,ssl,l,slss;t0,w2");
        check.due("drip(0, 99)", x.drip(0, 99), 0);
        check.due("drip(0, 98)", x.drip(0, 98), 1);
        check.due("drip(1, 99)", x.drip(1, 99), 0);
        check.due("drip(1, 98)", x.drip(1, 98), 1);
        for (int drip : new int[] {-1, 100, Integer.MIN_VALUE, Integer.MAX_VALUE}) {
            check.refused(x, "drip(0, " + drip + ")", () -> x.drip(0, drip), DripSayings.OUTSIDE);
            check.refused(x, "drip(2, " + drip + ")", () -> x.drip(2, drip), DripSayings.UNKNOWN);
        }
        for (int tap : STRANGE) check.refused(x, "drip(" + tap + ", 0)", () -> x.drip(tap, 0), DripSayings.UNKNOWN);
    }

    private static void promise11Listen() {
        DripSayings x = Check.withHouse("sll,ssl,l,slss;t0,b1");
        for (int i = 0; i < 60; i++) {
            check.due("place " + i, x.about(0, 3), i);
            check.due("listen(0) at " + i, x.listen(0), i % 3 == 0 ? 0 : 1);
        }
        check.due("place at last", x.about(0, 3), 60);
        check.refused(x, "listen(0) at 60", () -> x.listen(0), DripSayings.STATE);
        check.due("count(3)", x.count(3), 60);
        check.due("count(4)", x.count(4), 60);
        check.due("listen(1)", x.listen(1), 1);
        x.washer(1, true);
        check.due("listen(1) with a washer", x.listen(1), 1);
        check.due("place of 1", x.about(1, 3), 2);
        check.refused(x, "listen(2)", () -> x.listen(2), DripSayings.UNKNOWN);
        for (int tap : STRANGE) check.refused(x, "listen(" + tap + ")", () -> x.listen(tap), DripSayings.UNKNOWN);
    }

    private static void promise12Washer() {
        DripSayings x = Check.withHouse("sll,ssl,l,slss;t0,b1");
        check.due("washer(0, false)", x.washer(0, false), 0);
        check.due("washer(0, true)", x.washer(0, true), 0);
        check.due("washer(0, true) again", x.washer(0, true), 1);
        check.due("about(0, 2)", x.about(0, 2), 1);
        check.due("about(1, 2)", x.about(1, 2), 0);
        check.due("count(2)", x.count(2), 1);
        check.due("washer(0, false)", x.washer(0, false), 1);
        check.due("about(0, 2)", x.about(0, 2), 0);
        check.due("count(4)", x.count(4), 4);
        check.refused(x, "washer(2, true)", () -> x.washer(2, true), DripSayings.UNKNOWN);
        for (int tap : STRANGE) {
            check.refused(x, "washer(" + tap + ", true)", () -> x.washer(tap, true), DripSayings.UNKNOWN);
        }
    }

    private static void promise13Teach() {
        DripSayings x = Check.withHouse("sll,ssl,l,slss;t0,b1");
        x.listen(0);
        check.due("teach(0, 2)", x.teach(0, 2), 0);
        check.due("about(0, 1)", x.about(0, 1), 2);
        check.due("about(0, 3)", x.about(0, 3), 1);
        check.due("drip(0, 0)", x.drip(0, 0), 1);
        check.due("teach(0, 2) again", x.teach(0, 2), 2);
        check.due("teach(1, 3)", x.teach(1, 3), 1);
        check.due("drip(1, 2)", x.drip(1, 2), 1);
        check.due("count(4)", x.count(4), 4);
        for (int saying : new int[] {-1, 4, Integer.MIN_VALUE, Integer.MAX_VALUE}) {
            check.refused(x, "teach(0, " + saying + ")", () -> x.teach(0, saying), DripSayings.OUTSIDE);
            check.refused(x, "teach(2, " + saying + ")", () -> x.teach(2, saying), DripSayings.UNKNOWN);
        }
        for (int tap : STRANGE) check.refused(x, "teach(" + tap + ", 0)", () -> x.teach(tap, 0), DripSayings.UNKNOWN);
    }
}
