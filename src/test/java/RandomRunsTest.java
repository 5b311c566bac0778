import java.util.Random;

/** Long runs of calls by fixed seeds, each answer and each digest compared with the model's. */
public final class RandomRunsTest {
    private static final int RUNS = 500;
    /** So many calls at least; a last text and a digest more are still under the document's 512. */
    private static final int CALLS = 470;
    private static final int[] STRANGE = {-1, 4, 5, 8, 9, 14, 41, 60, 100, 127, Integer.MIN_VALUE, Integer.MAX_VALUE};
    private static final Check check = new Check();

    private final Random random;
    private final String run;
    private final DripSayings x = new DripSayings();
    private final Model model = new Model();
    private int calls;

    private RandomRunsTest(int seed) {
        random = new Random(seed);
        run = "run " + seed + ": ";
    }

    public static void main(String[] args) {
        for (int seed = 0; seed < RUNS; seed++) new RandomRunsTest(seed).go();
        check.end();
    }

    private void go() {
        if (random.nextInt(8) != 0) write(text());
        for (int i = 0; calls < CALLS; i++) {
            call();
            if (i % 4 == 0) due("digest()", x.digest(), model.digest());
        }
    }

    private void due(String call, long got, long want) {
        calls++;
        check.due(run + call, got, want);
    }

    private int number(int bound) {
        return random.nextInt(12) == 0 ? STRANGE[random.nextInt(STRANGE.length)] : random.nextInt(bound);
    }

    private int tap() {
        return number(Math.max(1, model.count(0)));
    }

    private String text() {
        StringBuilder text = new StringBuilder();
        for (int saying = 0; saying < 4; saying++) {
            int beats = 1 + random.nextInt(4);
            for (int i = 0; i < beats; i++) text.append("sl".charAt(random.nextInt(2)));
            text.append(saying == 3 ? ';' : ',');
        }
        int taps = 1 + random.nextInt(3);
        for (int tap = 0; tap < taps; tap++) {
            if (tap > 0) text.append(',');
            text.append("tbwoe".charAt(random.nextInt(5))).append(random.nextInt(4));
        }
        // now and then no house after all
        int at = random.nextInt(text.length());
        if (random.nextInt(4) == 0) text.setCharAt(at, "slt0,;3 ".charAt(random.nextInt(8)));
        if (random.nextInt(8) == 0) text.setLength(at);
        return text.toString();
    }

    private void write(String text) {
        due("blank()", x.blank(), model.blank());
        for (char letter : text.toCharArray()) due("letter(" + letter + ")", x.letter(letter), model.letter(letter));
        due("fault() of " + text, x.fault(), model.fault());
        due("house() of " + text, x.house(), model.house());
    }

    private void call() {
        int dice = random.nextInt(20);
        if (dice < 7) callOfChange(dice);
        else callOfTelling(dice);
    }

    private void callOfChange(int dice) {
        int tap = tap();
        boolean is = random.nextBoolean();
        switch (dice) {
            case 0 -> {
                // a run of them, so that some come to place 60
                for (int i = random.nextInt(9); i >= 0; i--) due("listen(" + tap + ")", x.listen(tap), model.listen(tap));
            }
            case 1 -> due("washer(" + tap + ", " + is + ")", x.washer(tap, is), model.washer(tap, is));
            case 2 -> {
                int saying = number(4);
                due("teach(" + tap + ", " + saying + ")", x.teach(tap, saying), model.teach(tap, saying));
            }
            case 3 -> {
                int kind = number(5);
                int saying = number(4);
                due("tap(" + kind + ", " + saying + ")", x.tap(kind, saying), model.tap(kind, saying));
            }
            case 4, 5 -> {
                int drip = number(60);
                due("put(" + tap + ", " + drip + ", " + is + ")", x.put(tap, drip, is), model.put(tap, drip, is));
            }
            default -> callSeldom();
        }
    }

    private void callSeldom() {
        switch (random.nextInt(8)) {
            case 0 -> write(text());
            case 1 -> due("forget()", x.forget(), model.forget());
            case 2 -> due("house()", x.house(), model.house());
            case 3 -> due("blank()", x.blank(), model.blank());
            case 4, 5 -> due("image()", x.image(), model.image());
            default -> due("restore()", x.restore(), model.restore());
        }
    }

    private void callOfTelling(int dice) {
        int tap = tap();
        int saying = number(4);
        int other = tap();
        int what = number(9);
        switch (dice) {
            case 7, 8 -> {
                int code = random.nextInt(140) - 5;
                due("letter(" + code + ")", x.letter(code), model.letter(code));
            }
            case 9 -> due("fault()", x.fault(), model.fault());
            case 10 -> due("saying(" + saying + ", " + (what + 7) + ")", x.saying(saying, what + 7),
                model.saying(saying, what + 7));
            case 11, 12, 13 -> due("about(" + tap + ", " + what + ")", x.about(tap, what), model.about(tap, what));
            case 14 -> due("as(" + tap + ", " + what + ")", x.as(tap, what), model.as(tap, what));
            case 15 -> {
                int drip = number(100);
                due("drip(" + tap + ", " + drip + ")", x.drip(tap, drip), model.drip(tap, drip));
            }
            case 16 -> due("agree(" + tap + ", " + other + ")", x.agree(tap, other), model.agree(tap, other));
            case 17 -> due("near(" + tap + ", " + saying + ", " + (what & 1) + ")", x.near(tap, saying, what & 1),
                model.near(tap, saying, what & 1));
            case 18 -> callNights();
            default -> due("count(" + what + ")", x.count(what), model.count(what));
        }
    }

    private void callNights() {
        int drips = number(42);
        int seed = random.nextInt(9) == 0 ? number(3) : random.nextInt() & Integer.MAX_VALUE;
        int what = number(3);
        due("nights(" + drips + ", " + seed + ", " + what + ")", x.nights(drips, seed, what),
            model.nights(drips, seed, what));
    }
}
