/** Promises 19 to 22: images, counts, the digest. */
public final class AllTest {
    private static final Check check = new Check();

    public static void main(String[] args) {
        promise19Image();
        promise20Restore();
        promise20RestoreRefused();
        promise21Count();
        promise22DigestWithoutHouse();
        promise22Digest();
        check.end();
    }

    private static void promise19Image() {
        DripSayings none = new DripSayings();
        check.refused(none, "image() without a house", none::image, DripSayings.STATE);
        DripSayings x = Check.withHouse("s,sl,lls,l;t0,b1");
        check.due("image()", x.image(), 0);
        x.listen(0);
        x.listen(1);
        x.tap(0, 0);
        x.put(0, 0, true);
        long before = x.digest();
        check.due("image() behind two changes", x.image(), 2);
        check.due("digest() behind image()", x.digest(), before);
        check.due("count(4)", x.count(4), 2);
        x.listen(0);
        // the latest one counts
        check.due("restore()", x.restore(), 2);
        check.due("digest() behind restore()", x.digest(), before);
    }

    private static void promise20Restore() {
        DripSayings x = Check.withHouse("s,sl,lls,l;t0,b1");
        x.listen(1);
        x.washer(0, true);
        x.put(0, 3, false);
        x.put(1, 4, true);
        long before = x.digest();
        x.image();
        x.tap(4, 3);
        x.listen(0);
        x.listen(2);
        x.washer(0, false);
        x.washer(1, true);
        x.teach(1, 3);
        x.forget();
        x.put(2, 5, true);
        check.due("restore()", x.restore(), 2);
        check.due("digest() as it was", x.digest(), before);
        check.due("about(2, 0)", x.about(2, 0), DripSayings.UNKNOWN);
        check.due("count(5)", x.count(5), 2);
        check.due("says of 0", x.about(0, 5), 2 + 4 + 8);
        check.due("says of 1", x.about(1, 5), 2 + 4 + 8);
        check.due("tap(0, 0)", x.tap(0, 0), 2);
        check.due("about(2, 1)", x.about(2, 1), 0);
        check.due("about(2, 2)", x.about(2, 2), 0);
        check.due("about(2, 3)", x.about(2, 3), 0);
        Check.write(x, "sl");
        check.due("restore() again", x.restore(), 2);
        check.due("the page stays", x.blank(), 2);
        check.due("digest() as it was", x.digest(), before);
        x.put(1, 0, false);
        x.put(0, 0, false);
        check.due("restore() once more", x.restore(), 2);
        check.due("put behind it", x.put(0, 0, true), 3);
    }

    private static void promise20RestoreRefused() {
        DripSayings none = new DripSayings();
        check.refused(none, "restore() without a house", none::restore, DripSayings.STATE);
        DripSayings x = Check.withHouse("s,sl,lls,l;t0,b1");
        x.listen(0);
        check.refused(x, "restore() without an image", x::restore, DripSayings.STATE);
        x.image();
        Check.write(x, "s,sl,lls,l;t0,b1");
        x.house();
        check.refused(x, "restore() in another house, of the same text", x::restore, DripSayings.STATE);
        check.due("image()", x.image(), 0);
        check.due("restore()", x.restore(), 0);
        Check.write(x, "s,sl,lls,l;t0,b");
        x.house();
        check.due("restore() behind a house that is none", x.restore(), 0);
    }

    private static void promise21Count() {
        DripSayings x = Check.withHouse("s,sl,lls,llll;t0,b1,w2");
        x.tap(3, 3);
        x.listen(0);
        x.listen(3);
        x.listen(3);
        x.washer(0, true);
        x.washer(3, true);
        x.washer(3, true);
        x.teach(1, 1);
        x.put(0, 0, true);
        x.letter('s');
        x.letter('s');
        x.listen(9);
        x.teach(0, 9);
        x.washer(9, true);
        int[] want = {4, 10, 2, 3, 7, 1, 2, 1};
        for (int what = 0; what <= 7; what++) check.due("count(" + what + ")", x.count(what), want[what]);
        for (int what : new int[] {-1, 8, Integer.MIN_VALUE, Integer.MAX_VALUE}) {
            check.refused(x, "count(" + what + ")", () -> x.count(what), DripSayings.OUTSIDE);
        }
        check.due("count(8) without a house", new DripSayings().count(8), DripSayings.OUTSIDE);
    }

    private static long counted(long start, DripSayings x) {
        long h = start;
        for (int what = 0; what <= 7; what++) h = 31 * h + x.count(what);
        return h;
    }

    private static void promise22DigestWithoutHouse() {
        DripSayings x = new DripSayings();
        check.due("digest() of a new object", x.digest(), counted(1061, x));
        x.letter('z');
        x.letter(1);
        check.due("digest() with a page", x.digest(), counted(31 * (31 * 1061L + 'z') + 1, x));
    }

    private static void promise22Digest() {
        DripSayings x = Check.withHouse("s,sl,lls,llll;t0,b1,w2");
        x.tap(4, 2);
        x.listen(0);
        x.washer(1, true);
        x.put(2, 3, false);
        x.put(2, 4, true);
        x.put(1, 0, true);
        x.letter('l');
        x.letter(',');
        long h = 1061;
        for (int saying = 0; saying < 4; saying++) {
            h = 31 * h + x.saying(saying, 0);
            for (int what = 10; what <= 13; what++) h = 31 * h + x.saying(saying, what);
        }
        for (int tap = 0; tap < 4; tap++) {
            for (int what = 0; what <= 8; what++) h = 31 * h + x.about(tap, what);
            for (int drip = 0; drip <= 7; drip++) h = 31 * h + x.drip(tap, drip);
            for (int saying = 0; saying < 4; saying++) {
                h = 31 * h + x.near(tap, saying, 0);
                h = 31 * h + x.near(tap, saying, 1);
            }
        }
        h = 31 * (31 * h + 'l') + ',';
        check.due("digest()", x.digest(), counted(h, x));
        check.due("digest() again", x.digest(), counted(h, x));
    }
}
