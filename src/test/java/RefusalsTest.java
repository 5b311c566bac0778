import java.util.ArrayList;
import java.util.List;
import java.util.function.Supplier;
import java.util.function.ToIntBiFunction;
import java.util.function.ToIntFunction;

/**
 * "Refusals, of several the first as told by each call; they change nothing": each refused call in a new
 * object, in a house, and in a full one, with what it answers and with all that is told behind it.
 */
public final class RefusalsTest {
    private static final int UNKNOWN = DripSayings.UNKNOWN, OUTSIDE = DripSayings.OUTSIDE;
    private static final int STATE = DripSayings.STATE, FULL = DripSayings.FULL;
    /** In place of an answer: the call is not refused there. */
    private static final int ALLOWED = 0;
    private static final int[] FAR = {-1, Integer.MIN_VALUE, Integer.MAX_VALUE};
    private static final Check check = new Check();

    private record Refusal(String name, ToIntFunction<DripSayings> call, int ofNew, int ofHouse, int ofFull) { }

    private static final List<Refusal> refusals = new ArrayList<>();

    public static void main(String[] args) {
        calls();
        states();
        for (Refusal refusal : refusals) {
            twins("a new object", RefusalsTest::ofNew, refusal, refusal.ofNew);
            twins("a house", RefusalsTest::ofHouse, refusal, refusal.ofHouse);
            twins("a full one", RefusalsTest::ofFull, refusal, refusal.ofFull);
        }
        check.end();
    }

    /** Nothing but a letter that no house has. */
    private static DripSayings ofNew() {
        return Check.withPage("x");
    }

    private static DripSayings ofHouse() {
        DripSayings x = Check.withHouse("s,sl,lls,slll;t0,b1,e2");
        x.listen(1);
        x.washer(1, true);
        x.put(1, 3, false);
        x.image();
        x.listen(0);
        x.put(2, 0, true);
        Check.write(x, "s,sl,lls,slll;t0,b1,");
        return x;
    }

    /** Five taps, tap 0 at place 60, 8 put down, 30 letters; the image is of another time. */
    private static DripSayings ofFull() {
        DripSayings x = Check.withHouse("s,sl,lls,slll;t2,b1,e2");
        x.tap(3, 3);
        x.tap(2, 1);
        x.washer(4, true);
        x.put(4, 59, true);
        x.image();
        for (int i = 0; i < 60; i++) x.listen(0);
        for (int i = 1; i < 8; i++) x.put(i % 5, i, i % 3 == 0);
        Check.write(x, "s,s,s,s;t0,t0,t0,t0,t0,t0,t0,t");
        return x;
    }

    /** The states are as full as their names tell. */
    private static void states() {
        int[][] counts = {{0, 0, 0, 0, 0, 0, 1, 0}, {3, 10, 1, 2, 3, 2, 20, 1}, {5, 10, 1, 60, 61, 8, 30, 1}};
        DripSayings[] states = {ofNew(), ofHouse(), ofFull()};
        for (int i = 0; i < states.length; i++) {
            for (int what = 0; what <= 7; what++) {
                check.due("count(" + what + ") of state " + i, states[i].count(what), counts[i][what]);
            }
        }
    }

    private static void add(String name, ToIntFunction<DripSayings> call, int ofNew, int ofHouse, int ofFull) {
        refusals.add(new Refusal(name, call, ofNew, ofHouse, ofFull));
    }

    /** One of two like objects is asked for what is refused; then both tell the same. */
    private static void twins(String state, Supplier<DripSayings> maker, Refusal refusal, int want) {
        if (want == ALLOWED) return;
        String name = refusal.name + " in " + state;
        DripSayings asked = maker.get();
        DripSayings other = maker.get();
        check.due(name, refusal.call.applyAsInt(asked), want);
        check.due(name + " again", refusal.call.applyAsInt(asked), want);
        List<Long> told = told(asked);
        List<Long> due = told(other);
        check.due("how much is told behind " + name, told.size(), due.size());
        for (int i = 0; i < Math.min(told.size(), due.size()); i++) {
            check.due("number " + i + " told behind " + name, told.get(i), due.get(i));
        }
    }

    /** All that an object tells; at last also of its image, by going on from it. */
    private static List<Long> told(DripSayings x) {
        List<Long> told = new ArrayList<>();
        tell(told, x);
        told.add((long) x.restore());
        tell(told, x);
        told.add((long) x.blank());
        told.add((long) x.forget());
        tell(told, x);
        return told;
    }

    private static void tell(List<Long> told, DripSayings x) {
        told.add(x.digest());
        told.add((long) x.fault());
        for (int what = 0; what <= 2; what++) told.add((long) x.nights(40, 1061, what));
        for (int a = 0; a < 5; a++) {
            for (int b = 0; b < 5; b++) told.add((long) x.agree(a, b));
        }
    }

    private static void calls() {
        callsOfThePage();
        callsOfTaps();
        callsOfTwoNumbers();
        callsOfPut();
        callsOfNights();
        add("image()", DripSayings::image, STATE, ALLOWED, ALLOWED);
        add("restore()", DripSayings::restore, STATE, ALLOWED, ALLOWED);
        for (int what : new int[] {-1, 8, Integer.MIN_VALUE, Integer.MAX_VALUE}) {
            add("count(" + what + ")", x -> x.count(what), OUTSIDE, OUTSIDE, OUTSIDE);
        }
    }

    private static void callsOfThePage() {
        // the last ones would be an 's' if they were cut to 8 or 16 bits
        for (int code : new int[] {0, -1, 127, 's' + 256, 's' + 65536, Integer.MIN_VALUE, Integer.MAX_VALUE}) {
            add("letter(" + code + ")", x -> x.letter(code), OUTSIDE, OUTSIDE, OUTSIDE);
        }
        add("letter(1)", x -> x.letter(1), ALLOWED, ALLOWED, FULL);
        add("letter(126)", x -> x.letter(126), ALLOWED, ALLOWED, FULL);
        add("house()", DripSayings::house, STATE, STATE, STATE);
        for (int what : new int[] {0, 10, 13}) {
            add("saying(3, " + what + ")", x -> x.saying(3, what), UNKNOWN, ALLOWED, ALLOWED);
        }
        for (int what : new int[] {-1, 1, 9, 14, Integer.MIN_VALUE, Integer.MAX_VALUE}) {
            add("saying(0, " + what + ")", x -> x.saying(0, what), UNKNOWN, OUTSIDE, OUTSIDE);
            add("saying(4, " + what + ")", x -> x.saying(4, what), UNKNOWN, UNKNOWN, UNKNOWN);
        }
        for (int saying : FAR) add("saying(" + saying + ", 0)", x -> x.saying(saying, 0), UNKNOWN, UNKNOWN, UNKNOWN);
    }

    /** Of a tap alone: number 3 is behind the last of a house, number 5 behind the last of a full one. */
    private static void ofTap(String name, ToIntBiFunction<DripSayings, Integer> call) {
        add(name + " of tap 0", x -> call.applyAsInt(x, 0), UNKNOWN, ALLOWED, ALLOWED);
        add(name + " of tap 3", x -> call.applyAsInt(x, 3), UNKNOWN, UNKNOWN, ALLOWED);
        add(name + " of tap 5", x -> call.applyAsInt(x, 5), UNKNOWN, UNKNOWN, UNKNOWN);
        for (int tap : FAR) add(name + " of tap " + tap, x -> call.applyAsInt(x, tap), UNKNOWN, UNKNOWN, UNKNOWN);
    }

    private static void callsOfTaps() {
        ofTap("about 0", (x, tap) -> x.about(tap, 0));
        ofTap("about 8", (x, tap) -> x.about(tap, 8));
        ofTap("as a tap", (x, tap) -> x.as(tap, 0));
        ofTap("drip 99", (x, tap) -> x.drip(tap, 99));
        ofTap("washer true", (x, tap) -> x.washer(tap, true));
        ofTap("washer false", (x, tap) -> x.washer(tap, false));
        ofTap("teach 3", (x, tap) -> x.teach(tap, 3));
        ofTap("near 3", (x, tap) -> x.near(tap, 3, 1));
        ofTap("agree with 1", (x, tap) -> x.agree(tap, 1));
        ofTap("agree of 1", (x, tap) -> x.agree(1, tap));
        add("listen of tap 0", x -> x.listen(0), UNKNOWN, ALLOWED, STATE);
        add("listen of tap 3", x -> x.listen(3), UNKNOWN, UNKNOWN, ALLOWED);
        add("listen of tap 5", x -> x.listen(5), UNKNOWN, UNKNOWN, UNKNOWN);
        for (int tap : FAR) add("listen of tap " + tap, x -> x.listen(tap), UNKNOWN, UNKNOWN, UNKNOWN);
        add("agree of one tap with itself", x -> x.agree(1, 1), UNKNOWN, UNKNOWN, UNKNOWN);
        add("agree of no tap with itself", x -> x.agree(5, 5), UNKNOWN, UNKNOWN, UNKNOWN);
        add("tap(0, 0)", x -> x.tap(0, 0), STATE, ALLOWED, FULL);
        add("tap(4, 3)", x -> x.tap(4, 3), STATE, ALLOWED, FULL);
        add("tap(5, 3)", x -> x.tap(5, 3), OUTSIDE, OUTSIDE, OUTSIDE);
        add("tap(4, 4)", x -> x.tap(4, 4), OUTSIDE, OUTSIDE, OUTSIDE);
        for (int far : FAR) {
            add("tap(" + far + ", 0)", x -> x.tap(far, 0), OUTSIDE, OUTSIDE, OUTSIDE);
            add("tap(0, " + far + ")", x -> x.tap(0, far), OUTSIDE, OUTSIDE, OUTSIDE);
        }
    }

    /** UNKNOWN is told ahead of OUTSIDE. */
    private static void outside(String name, ToIntBiFunction<DripSayings, Integer> call) {
        add(name + " of tap 0", x -> call.applyAsInt(x, 0), UNKNOWN, OUTSIDE, OUTSIDE);
        add(name + " of tap 3", x -> call.applyAsInt(x, 3), UNKNOWN, UNKNOWN, OUTSIDE);
        add(name + " of tap 5", x -> call.applyAsInt(x, 5), UNKNOWN, UNKNOWN, UNKNOWN);
        add(name + " of tap -1", x -> call.applyAsInt(x, -1), UNKNOWN, UNKNOWN, UNKNOWN);
    }

    private static void callsOfTwoNumbers() {
        for (int what : new int[] {-1, 9, Integer.MIN_VALUE, Integer.MAX_VALUE}) {
            outside("about " + what, (x, tap) -> x.about(tap, what));
        }
        for (int kind : new int[] {-1, 5, Integer.MIN_VALUE, Integer.MAX_VALUE}) {
            outside("as " + kind, (x, tap) -> x.as(tap, kind));
        }
        for (int drip : new int[] {-1, 100, Integer.MIN_VALUE, Integer.MAX_VALUE}) {
            outside("drip " + drip, (x, tap) -> x.drip(tap, drip));
        }
        for (int saying : new int[] {-1, 4, Integer.MIN_VALUE, Integer.MAX_VALUE}) {
            outside("teach " + saying, (x, tap) -> x.teach(tap, saying));
            outside("near " + saying + ", 0", (x, tap) -> x.near(tap, saying, 0));
            outside("near " + saying + ", 1", (x, tap) -> x.near(tap, saying, 1));
            outside("near " + saying + ", 2", (x, tap) -> x.near(tap, saying, 2));
        }
        for (int what : new int[] {-1, 2, Integer.MIN_VALUE, Integer.MAX_VALUE}) {
            outside("near 0, " + what, (x, tap) -> x.near(tap, 0, what));
        }
    }

    private static void callsOfPut() {
        for (int drip : new int[] {-1, 60, Integer.MIN_VALUE, Integer.MAX_VALUE}) {
            outside("put " + drip + " long", (x, tap) -> x.put(tap, drip, true));
            outside("put " + drip + " short", (x, tap) -> x.put(tap, drip, false));
        }
        for (int drip : new int[] {0, 59}) {
            add("put(0, " + drip + ", true)", x -> x.put(0, drip, true), UNKNOWN, ALLOWED, FULL);
            add("put(4, " + drip + ", false)", x -> x.put(4, drip, false), UNKNOWN, UNKNOWN, FULL);
            add("put(5, " + drip + ", true)", x -> x.put(5, drip, true), UNKNOWN, UNKNOWN, UNKNOWN);
        }
        for (int tap : FAR) add("put(" + tap + ", 0, true)", x -> x.put(tap, 0, true), UNKNOWN, UNKNOWN, UNKNOWN);
    }

    private static void callsOfNights() {
        add("nights(1, 0, 0)", x -> x.nights(1, 0, 0), STATE, ALLOWED, ALLOWED);
        add("nights(40, 2147483647, 2)", x -> x.nights(40, 2147483647, 2), STATE, ALLOWED, ALLOWED);
        for (int drips : new int[] {0, 41, -1, Integer.MIN_VALUE, Integer.MAX_VALUE}) {
            add("nights(" + drips + ", 0, 0)", x -> x.nights(drips, 0, 0), OUTSIDE, OUTSIDE, OUTSIDE);
        }
        for (int seed : new int[] {-1, Integer.MIN_VALUE}) {
            add("nights(1, " + seed + ", 0)", x -> x.nights(1, seed, 0), OUTSIDE, OUTSIDE, OUTSIDE);
        }
        for (int what : new int[] {-1, 3, Integer.MIN_VALUE, Integer.MAX_VALUE}) {
            add("nights(1, 0, " + what + ")", x -> x.nights(1, 0, what), OUTSIDE, OUTSIDE, OUTSIDE);
        }
    }
}
