/** Promises 1 to 6: a new object, the page, the house. */
public final class HouseTest {
    private static final Check check = new Check();

    public static void main(String[] args) {
        promise1NewObject();
        promise2Letter();
        promise3Blank();
        promise4FaultInSayings();
        promise4FaultInTaps();
        promise5House();
        promise5AnotherHouse();
        promise5NoHouse();
        promise6Saying();
        check.end();
    }

    private static void promise1NewObject() {
        DripSayings x = new DripSayings();
        for (int what = 0; what <= 7; what++) check.due("count(" + what + ")", x.count(what), 0);
        check.due("saying(0, 0)", x.saying(0, 0), DripSayings.UNKNOWN);
        check.due("about(0, 0)", x.about(0, 0), DripSayings.UNKNOWN);
        check.due("tap(0, 0)", x.tap(0, 0), DripSayings.STATE);
        check.due("nights(1, 0, 0)", x.nights(1, 0, 0), DripSayings.STATE);
        check.due("image()", x.image(), DripSayings.STATE);
        check.due("restore()", x.restore(), DripSayings.STATE);
        check.due("house()", x.house(), DripSayings.STATE);
        check.due("fault()", x.fault(), 0);
        check.due("forget()", x.forget(), 0);
    }

    private static void promise2Letter() {
        DripSayings x = new DripSayings();
        int[] outside = {0, -1, 127, Integer.MIN_VALUE, Integer.MAX_VALUE};
        for (int code : outside) check.refused(x, "letter(" + code + ")", () -> x.letter(code), DripSayings.OUTSIDE);
        check.due("letter(1)", x.letter(1), 1);
        check.due("letter(126)", x.letter(126), 2);
        for (int i = 3; i <= 30; i++) check.due("letter " + i, x.letter('s'), i);
        check.refused(x, "letter 31", () -> x.letter('s'), DripSayings.FULL);
        check.refused(x, "letter 31 outside", () -> x.letter(0), DripSayings.OUTSIDE);
        check.due("count(6)", x.count(6), 30);
    }

    private static void promise3Blank() {
        DripSayings x = Check.withPage("sl,");
        check.due("blank()", x.blank(), 3);
        check.due("blank() again", x.blank(), 0);
        check.due("count(6)", x.count(6), 0);
        check.due("letter behind blank()", x.letter('s'), 1);
        DripSayings full = Check.withPage("ssssssssssssssssssssssssssssss");
        check.due("blank() of a full page", full.blank(), 30);
        check.due("letter behind that", full.letter('s'), 1);
    }

    private static void faultDue(String text, int want) {
        check.due("fault() of " + text, Check.withPage(text).fault(), want);
    }

    private static void promise4FaultInSayings() {
        faultDue("", 0);
        faultDue("s", 1);
        faultDue("ssll", 4);
        faultDue("sslls", 4);
        faultDue("ssll,", 5);
        faultDue(",", 0);
        faultDue("s,,", 2);
        faultDue("s;", 1);
        faultDue("s,s,s;", 5);
        faultDue("s,s,s,;", 6);
        faultDue("s,s,s,s,", 7);
        faultDue("S", 0);
        faultDue("sxs", 1);
        faultDue("s,s,l,llll;", 11);
        faultDue("s,s,l,lllll", 10);
        faultDue("x,x", 0);
    }

    private static void promise4FaultInTaps() {
        faultDue("s,s,l,l;t", 9);
        for (char kind : "tbwoe".toCharArray()) faultDue("s,s,l,l;" + kind + "0", 10);
        faultDue("s,s,l,l;x0", 8);
        faultDue("s,s,l,l;s0", 8);
        faultDue("s,s,l,l;T0", 8);
        faultDue("s,s,l,l;0", 8);
        faultDue("s,s,l,l;,", 8);
        faultDue("s,s,l,l;t3", 10);
        faultDue("s,s,l,l;t4", 9);
        faultDue("s,s,l,l;t/", 9);
        faultDue("s,s,l,l;tt", 9);
        faultDue("s,s,l,l;t00", 10);
        faultDue("s,s,l,l;t0;", 10);
        faultDue("s,s,l,l;t0,", 11);
        faultDue("s,s,l,l;t0,,", 11);
        faultDue("s,s,l,l;t0,b1,e2", 16);
        faultDue("s,s,l,l;t0,b1,e2,", 16);
        faultDue("ssss,llll,slsl,lsls;t0,b1,e3", 28);
        faultDue("ssss,llll,slsl,lsls;t0,b1,e3s", 28);
    }

    private static void promise5House() {
        DripSayings x = Check.withPage("s,ls,lls,llls;t0,b1,e3");
        check.due("house()", x.house(), 3);
        check.due("count(6)", x.count(6), 0);
        check.due("count(7)", x.count(7), 1);
        check.due("count(1)", x.count(1), 10);
        int[] kinds = {0, 1, 4};
        int[] says = {0, 1, 3};
        for (int tap = 0; tap < 3; tap++) {
            check.due("about(" + tap + ", 0)", x.about(tap, 0), kinds[tap]);
            check.due("about(" + tap + ", 1)", x.about(tap, 1), says[tap]);
            check.due("about(" + tap + ", 2)", x.about(tap, 2), 0);
            check.due("about(" + tap + ", 3)", x.about(tap, 3), 0);
        }
        check.due("about(3, 0)", x.about(3, 0), DripSayings.UNKNOWN);
        DripSayings y = Check.withHouse("s,s,l,l;w2,o3");
        check.due("kind of w", y.about(0, 0), 2);
        check.due("kind of o", y.about(1, 0), 3);
        check.due("saying of w", y.about(0, 1), 2);
        check.due("longest house", Check.withPage("ssss,llll,slsl,lsls;t0,b1,e3").house(), 3);
        check.due("least house", Check.withPage("s,s,s,s;t0").house(), 1);
    }

    private static void promise5AnotherHouse() {
        DripSayings x = Check.withHouse("s,ls,lls,llls;t0,b1,e3");
        x.tap(2, 2);
        x.listen(0);
        x.washer(0, true);
        x.put(0, 0, true);
        x.image();
        Check.write(x, "llll,l,s,s;o2");
        check.due("house()", x.house(), 1);
        int[] counts = {1, 7, 0, 0, 0, 0, 0, 2};
        for (int what = 0; what <= 7; what++) check.due("count(" + what + ")", x.count(what), counts[what]);
        int[][] sayings = {{4, 1, 1, 1, 1}, {1, 1, -1, -1, -1}, {1, 0, -1, -1, -1}, {1, 0, -1, -1, -1}};
        int[] whats = {0, 10, 11, 12, 13};
        for (int saying = 0; saying < 4; saying++) {
            for (int i = 0; i < 5; i++) {
                String call = "saying(" + saying + ", " + whats[i] + ")";
                check.due(call, x.saying(saying, whats[i]), sayings[saying][i]);
            }
        }
        check.due("about(1, 0)", x.about(1, 0), DripSayings.UNKNOWN);
        check.due("restore()", x.restore(), DripSayings.STATE);
        check.due("digest as of a house read first", x.digest(), digestWithTwoReads());
    }

    /** The same house, in an object that knew only a house with nothing done. */
    private static long digestWithTwoReads() {
        DripSayings x = Check.withHouse("s,s,s,s;t0");
        Check.write(x, "llll,l,s,s;o2");
        x.house();
        return x.digest();
    }

    private static void promise5NoHouse() {
        DripSayings x = Check.withHouse("s,ls,lls,llls;t0,b1,e3");
        x.listen(0);
        x.image();
        String[] none = {"", "s", "s,s,l,l", "s,s,l,l;", "s,s,l,l;t", "s,s,l,l;t0,", "s,s,l,l;t0,b", "s,s,l,l;t0x",
            "s,s,l,l,t0", "s,s,l;t0", "s,s,l,l;t0,b1,e2,t3"};
        for (String text : none) {
            Check.write(x, text);
            check.refused(x, "house() of " + text, x::house, DripSayings.STATE);
            check.due("letters of " + text, x.blank(), text.length());
        }
        check.due("restore() goes on", x.restore(), 1);
    }

    private static void promise6Saying() {
        DripSayings x = Check.withHouse("s,ls,lls,slls;t0");
        String[] texts = {"s", "ls", "lls", "slls"};
        for (int saying = 0; saying < 4; saying++) {
            check.due("saying(" + saying + ", 0)", x.saying(saying, 0), texts[saying].length());
            for (int i = 0; i < 4; i++) {
                int want = i >= texts[saying].length() ? DripSayings.NONE : texts[saying].charAt(i) == 'l' ? 1 : 0;
                check.due("saying(" + saying + ", 1" + i + ")", x.saying(saying, 10 + i), want);
            }
        }
        int[] unknown = {-1, 4, Integer.MIN_VALUE, Integer.MAX_VALUE};
        int[] outside = {-1, 1, 9, 14, Integer.MIN_VALUE, Integer.MAX_VALUE};
        for (int saying : unknown) {
            check.refused(x, "saying(" + saying + ", 0)", () -> x.saying(saying, 0), DripSayings.UNKNOWN);
            check.refused(x, "saying(" + saying + ", 99)", () -> x.saying(saying, 99), DripSayings.UNKNOWN);
        }
        for (int what : outside) {
            check.refused(x, "saying(0, " + what + ")", () -> x.saying(0, what), DripSayings.OUTSIDE);
        }
        check.due("without a house, outside", new DripSayings().saying(0, 99), DripSayings.UNKNOWN);
    }
}
