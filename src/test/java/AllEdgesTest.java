/** Promises 19 to 22 at their edges: a method for each sentence that names one. */
public final class AllEdgesTest {
    private static final Check check = new Check();
    private static final int STATE = DripSayings.STATE;

    public static void main(String[] args) {
        promise19OfAHouseUntouched();
        promise19TheLatest();
        promise20NoneWasKept();
        promise20AnotherHouseSince();
        promise20ThoseThatCameSinceAreGone();
        promise20FromFullToEmpty();
        promise20FromEmptyToFull();
        promise20TheWasherOfWhatIsPutDown();
        promise20ThePageStays();
        promise20AsOftenAsAsked();
        promise21LeastAndMost();
        promise21HowOftenChanged();
        promise22WithoutHouse();
        promise22WithHouse();
        check.end();
    }

    /** "how often anything was changed": not at all */
    private static void promise19OfAHouseUntouched() {
        DripSayings x = Check.withHouse("s,sl,lls,slll;t0");
        long before = x.digest();
        check.due("image()", x.image(), 0);
        check.due("digest() behind image()", x.digest(), before);
        check.due("restore()", x.restore(), 0);
        check.due("digest() behind restore()", x.digest(), before);
    }

    /** "one; the latest" */
    private static void promise19TheLatest() {
        DripSayings x = Check.withHouse("s,sl,lls,slll;t0");
        for (int changes = 0; changes <= 60; changes++) {
            check.due("image() behind " + changes, x.image(), changes);
            x.listen(0);
        }
        check.due("restore()", x.restore(), 60);
        check.due("place", x.about(0, 3), 60);
        x.washer(0, true);
        check.due("restore() again", x.restore(), 60);
        check.due("washer", x.about(0, 2), 0);
    }

    /** "STATE: none was kept" */
    private static void promise20NoneWasKept() {
        DripSayings x = new DripSayings();
        check.refused(x, "restore() of a new object", x::restore, STATE);
        check.refused(x, "image() of a new object", x::image, STATE);
        check.refused(x, "restore() behind a refused image()", x::restore, STATE);
        Check.write(x, "s,sl,lls,slll;t0");
        check.refused(x, "image() with a page", x::image, STATE);
        x.house();
        check.refused(x, "restore() in a house", x::restore, STATE);
        check.due("image()", x.image(), 0);
        check.due("restore()", x.restore(), 0);
    }

    /** "or there is another HOUSE since": not one that is none, and not a page alone */
    private static void promise20AnotherHouseSince() {
        DripSayings x = Check.withHouse("s,sl,lls,slll;t0");
        x.listen(0);
        x.image();
        Check.write(x, "l,l,l,l;t0,");
        check.due("house()", x.house(), STATE);
        check.due("restore() behind none", x.restore(), 1);
        x.letter('b');
        check.due("restore() with a page", x.restore(), 1);
        x.letter('0');
        check.due("house()", x.house(), 2);
        check.refused(x, "restore() in the other house", x::restore, STATE);
        check.due("image() of it", x.image(), 0);
        x.listen(1);
        check.due("restore()", x.restore(), 0);
        check.due("count(0)", x.count(0), 2);
        check.due("saying(0, 10)", x.saying(0, 10), 1);
    }

    /** "those that come since are gone by restore()": from the first of them on */
    private static void promise20ThoseThatCameSinceAreGone() {
        for (int kept = 1; kept <= 5; kept++) {
            DripSayings x = Check.withHouse("s,sl,lls,slll;t0");
            for (int tap = 1; tap < kept; tap++) x.tap(1, tap % 4);
            long before = x.digest();
            x.image();
            for (int tap = kept; tap < 5; tap++) check.due("tap(4, 3)", x.tap(4, 3), tap);
            for (int tap = 0; tap < 5; tap++) {
                x.listen(tap);
                x.washer(tap, true);
                x.teach(tap, 2);
                x.put(tap, 0, true);
            }
            check.due("restore()", x.restore(), 0);
            check.due("count(0)", x.count(0), kept);
            check.due("digest()", x.digest(), before);
            for (int tap = 0; tap <= 5; tap++) {
                check.due("as(" + tap + ", 0)", x.as(tap, 0), tap < kept ? tap : DripSayings.UNKNOWN);
            }
            check.due("tap(2, 1)", x.tap(2, 1), kept < 5 ? kept : DripSayings.FULL);
            if (kept < 5) {
                // of the one that is gone, nothing comes again: neither washer, place nor what was put down
                int[] about = {2, 1, 0, 0, DripSayings.NONE, 15, 0, 0};
                for (int what = 0; what <= 7; what++) {
                    check.due("about(" + kept + ", " + what + ")", x.about(kept, what), about[what]);
                }
            }
        }
    }

    private static void fill(DripSayings x) {
        for (int i = 0; i < 60; i++) x.listen(0);
        x.washer(0, true);
        x.teach(0, 3);
        for (int i = 0; i < 8; i++) x.put(i % 2, 59 - i, i % 3 == 0);
    }

    private static void promise20FromFullToEmpty() {
        DripSayings x = Check.withHouse("s,sl,lls,slll;t0,b1");
        long before = x.digest();
        x.image();
        fill(x);
        check.due("listen(0)", x.listen(0), STATE);
        check.due("restore()", x.restore(), 0);
        check.due("digest()", x.digest(), before);
        check.due("count(3)", x.count(3), 0);
        check.due("count(5)", x.count(5), 0);
        check.due("listen(0)", x.listen(0), 0);
        check.due("put(0, 0, true)", x.put(0, 0, true), 1);
    }

    private static void promise20FromEmptyToFull() {
        DripSayings x = Check.withHouse("s,sl,lls,slll;t0,b1");
        fill(x);
        long before = x.digest();
        check.due("image()", x.image(), 62);
        check.due("forget()", x.forget(), 8);
        x.washer(0, false);
        x.teach(0, 0);
        // what is put down since must not come through
        for (int i = 0; i < 8; i++) x.put(0, i, true);
        check.due("restore()", x.restore(), 62);
        check.due("digest()", x.digest(), before);
        check.due("listen(0)", x.listen(0), STATE);
        check.due("put(0, 0, true)", x.put(0, 0, true), DripSayings.FULL);
        check.due("forget()", x.forget(), 8);
    }

    /** What is put down keeps its washer, which is not the one that the image keeps of the tap. */
    private static void promise20TheWasherOfWhatIsPutDown() {
        DripSayings x = Check.withHouse("ss,sl,ls,ll;t0");
        x.washer(0, true);
        x.put(0, 1, false);
        x.washer(0, false);
        x.put(0, 0, true);
        x.image();
        x.forget();
        x.put(0, 1, false);
        x.washer(0, true);
        x.put(0, 0, true);
        check.due("says", x.about(0, 5), 1);
        check.due("restore()", x.restore(), 2);
        check.due("says as it was", x.about(0, 5), 8);
        check.due("washer as it was", x.about(0, 2), 0);
    }

    /** The image keeps no page, and not how often a house was read. */
    private static void promise20ThePageStays() {
        DripSayings x = Check.withHouse("s,sl,lls,slll;t0");
        Check.write(x, "sx");
        x.image();
        x.letter('y');
        check.due("restore()", x.restore(), 0);
        check.due("count(6)", x.count(6), 3);
        check.due("fault()", x.fault(), 1);
        x.blank();
        check.due("restore()", x.restore(), 0);
        check.due("count(6)", x.count(6), 0);
        check.due("count(7)", x.count(7), 1);
    }

    /** The image stays, whatever is done with what goes on from it. */
    private static void promise20AsOftenAsAsked() {
        DripSayings x = Check.withHouse("s,sl,lls,slll;t0,b1");
        x.listen(1);
        x.put(1, 0, true);
        long before = x.digest();
        x.image();
        for (int i = 0; i < 12; i++) {
            check.due("restore() " + i, x.restore(), 1);
            check.due("digest()", x.digest(), before);
            x.listen(1);
            x.washer(0, true);
            x.teach(1, 3);
            x.tap(4, 0);
            x.forget();
            x.put(0, 3, true);
            check.due("count(4) goes on from it", x.count(4), 4);
        }
    }

    private static void countsDue(String when, DripSayings x, int... want) {
        for (int what = 0; what <= 7; what++) check.due("count(" + what + ") of " + when, x.count(what), want[what]);
        check.due("count(-1) of " + when, x.count(-1), DripSayings.OUTSIDE);
        check.due("count(8) of " + when, x.count(8), DripSayings.OUTSIDE);
    }

    /** "How many": from none to the most that there can be */
    private static void promise21LeastAndMost() {
        DripSayings x = new DripSayings();
        countsDue("a new object", x, 0, 0, 0, 0, 0, 0, 0, 0);
        Check.write(x, "x".repeat(30));
        countsDue("a full page", x, 0, 0, 0, 0, 0, 0, 30, 0);
        countsDue("the least house", Check.withHouse("s,s,s,s;t0"), 1, 4, 0, 0, 0, 0, 0, 1);
        DripSayings most = Check.withHouse("ssss,llll,slsl,lsls;t0,b1,w2");
        most.tap(3, 3);
        most.tap(4, 0);
        for (int tap = 0; tap < 5; tap++) {
            for (int i = 0; i < 60; i++) most.listen(tap);
            most.washer(tap, true);
        }
        for (int i = 0; i < 9; i++) most.put(i % 5, i, true);
        Check.write(most, "s".repeat(31));
        countsDue("the most", most, 5, 16, 5, 300, 305, 8, 30, 1);
    }

    /** "(listen(), washer(), teach(), also where it becomes what it was)", and by nothing else */
    private static void promise21HowOftenChanged() {
        DripSayings x = Check.withHouse("s,sl,lls,slll;t0,b1");
        x.listen(0);
        check.due("count(4) behind listen()", x.count(4), 1);
        x.washer(0, true);
        check.due("count(4) behind washer()", x.count(4), 2);
        x.washer(0, true);
        check.due("count(4) behind the same washer()", x.count(4), 3);
        x.washer(1, false);
        check.due("count(4) behind washer(1, false)", x.count(4), 4);
        x.teach(0, 3);
        check.due("count(4) behind teach()", x.count(4), 5);
        x.teach(0, 3);
        check.due("count(4) behind the same teach()", x.count(4), 6);
        x.tap(0, 0);
        x.put(0, 0, true);
        x.forget();
        x.letter('s');
        x.blank();
        x.fault();
        x.house();
        x.image();
        x.restore();
        x.nights(40, 0, 0);
        x.agree(0, 1);
        x.near(0, 1, 0);
        x.drip(0, 0);
        x.as(0, 0);
        x.about(0, 4);
        x.digest();
        x.listen(3);
        x.washer(-1, true);
        x.teach(0, 4);
        check.due("count(4) behind all others, and refused ones", x.count(4), 6);
        x.listen(2);
        check.due("count(4) behind listen()", x.count(4), 7);
    }

    private static long counted(long start, DripSayings x) {
        long h = start;
        for (int what = 0; what <= 7; what++) h = 31 * h + x.count(what);
        return h;
    }

    /** Without a house: the letters and the counts alone, from no letter to a full page. */
    private static void promise22WithoutHouse() {
        DripSayings x = new DripSayings();
        long letters = 1061;
        check.due("digest() of a new object", x.digest(), counted(letters, x));
        for (int i = 0; i < 30; i++) {
            int code = i % 2 == 0 ? 126 - i : 1 + i;
            x.letter(code);
            letters = 31 * letters + code;
            check.due("digest() of " + (i + 1), x.digest(), counted(letters, x));
        }
    }

    /** "in order": each saying, each tap, the page, the counts, with one tap and with five */
    private static void promise22WithHouse() {
        DripSayings x = Check.withHouse("s,ll,sls,slll;e3");
        digestDue("one tap", x, 1, "");
        x.listen(0);
        x.washer(0, true);
        for (int kind = 0; kind < 4; kind++) x.tap(kind, kind);
        // nothing can say this, and worn ones are not told apart: -1 stands in the row, too
        x.put(1, 0, true);
        x.put(1, 0, false);
        Check.write(x, "sl,;t0~");
        digestDue("five taps", x, 5, "sl,;t0~");
    }

    private static void digestDue(String when, DripSayings x, int taps, String page) {
        long h = 1061;
        for (int saying = 0; saying < 4; saying++) {
            for (int what : new int[] {0, 10, 11, 12, 13}) h = 31 * h + x.saying(saying, what);
        }
        for (int tap = 0; tap < taps; tap++) {
            for (int what = 0; what <= 8; what++) h = 31 * h + x.about(tap, what);
            for (int drip = 0; drip <= 7; drip++) h = 31 * h + x.drip(tap, drip);
            for (int near = 0; near < 8; near++) h = 31 * h + x.near(tap, near / 2, near % 2);
        }
        for (char letter : page.toCharArray()) h = 31 * h + letter;
        long want = counted(h, x);
        check.due("digest() with " + when, x.digest(), want);
        check.due("digest() again", x.digest(), want);
    }
}
