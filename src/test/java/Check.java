/** Compares answers with what is due, and ends a test with exit code 1 if one was wrong. */
final class Check {
    private int asked = 0;
    private int wrong = 0;

    void due(String call, long got, long want) {
        asked++;
        if (got == want) return;
        wrong++;
        System.out.println(call + " answered " + got + ", due is " + want);
    }

    /** A refused call answers as told, and leaves what is told of all as it was. */
    void refused(DripSayings x, String call, java.util.function.IntSupplier made, int want) {
        long before = x.digest();
        due(call, made.getAsInt(), want);
        due("digest() behind " + call, x.digest(), before);
    }

    void end() {
        System.out.println(asked + " answers, " + wrong + " wrong");
        if (asked == 0 || wrong != 0) System.exit(1);
    }

    static void write(DripSayings x, String text) {
        for (int i = 0; i < text.length(); i++) x.letter(text.charAt(i));
    }

    static DripSayings withHouse(String text) {
        DripSayings x = new DripSayings();
        write(x, text);
        if (x.house() < 1) throw new IllegalStateException("no house: " + text);
        return x;
    }

    static DripSayings withPage(String text) {
        DripSayings x = new DripSayings();
        write(x, text);
        return x;
    }
}
