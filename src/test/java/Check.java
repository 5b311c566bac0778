import java.math.BigInteger;
import java.util.function.IntSupplier;

/** Compares answers with what is due, and ends a test with exit code 1 if one was wrong. */
final class Check {
    private int asked = 0;
    private int wrong = 0;

    void due(String call, long got, long want) {
        asked++;
        if (got == want) return;
        wrong++;
        System.out.println(call + " answered " + got + ", due is " + want);
    }

    /** A refused call answers as told, and leaves what is told of all as it was. */
    void refused(DripSayings x, String call, IntSupplier made, int want) {
        long before = x.digest();
        due(call, made.getAsInt(), want);
        due("digest() behind " + call, x.digest(), before);
    }

    void end() {
        System.out.println(asked + " answers, " + wrong + " wrong");
        if (asked == 0 || wrong != 0) System.exit(1);
    }

    static void write(DripSayings x, String text) {
        for (int i = 0; i < text.length(); i++) x.letter(text.charAt(i));
    }

    static DripSayings withHouse(String text) {
        DripSayings x = new DripSayings();
        write(x, text);
        if (x.house() < 1) throw new IllegalStateException("no house: " + text);
        return x;
    }

    static DripSayings withPage(String text) {
        DripSayings x = new DripSayings();
        write(x, text);
        return x;
    }

    /** NIGHTS as the document tells them, with numbers that can't wrap; each tap drips its text over and over. */
    void nightsDue(DripSayings x, String[] taps, int drips, int seed) {
        BigInteger next = BigInteger.valueOf(seed);
        int longs = 0;
        int slips = 0;
        for (int i = 0; i < drips; i++) {
            for (String tap : taps) {
                next = next.multiply(BigInteger.valueOf(1103515245)).add(BigInteger.valueOf(12345))
                    .mod(BigInteger.TWO.pow(31));
                boolean slip = next.longValueExact() / 65536 % 8 == 0;
                if (slip) slips++;
                if (slip ? beatOf(tap, i % tap.length()) == 0 : beatOf(tap, i % tap.length()) == 1) longs++;
            }
        }
        String call = "nights(" + drips + ", " + seed + ", ";
        due(call + "0)", x.nights(drips, seed, 0), longs);
        due(call + "1)", x.nights(drips, seed, 1), slips);
        due(call + "2)", x.nights(drips, seed, 2), next.longValueExact());
    }

    /** 0 SHORT, 1 LONG, NONE where the text has no such beat. */
    static int beatOf(String text, int place) {
        if (place < 0 || place >= text.length()) return DripSayings.NONE;
        return text.charAt(place) == 'l' ? 1 : 0;
    }
}
