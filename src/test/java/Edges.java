import java.util.ArrayList;
import java.util.LinkedHashMap;
import java.util.List;
import java.util.Map;
import java.util.function.ToIntFunction;

/**
 * Tests of one sentence of the document each: where it stands (a promise by its number, a term by
 * its own), its words as they stand there, and the answers that are due by it, worked out by hand.
 */
abstract class Edges {
    static final int NONE = -1;
    static final int LEAST = Integer.MIN_VALUE;
    static final int MOST = Integer.MAX_VALUE;
    static final int[] NO_SIDES = {-1, 2, LEAST, MOST};
    static final int[] NO_STEPS = {-1, 6, LEAST, MOST};
    static final int[] NO_BEATS = {-1, 200, LEAST, MOST};
    static final int[] NO_SLOTS = {-1, 4, LEAST, MOST};
    static final int[] NO_WHATS = {-1, 2, LEAST, MOST};

    /** The first LINE, of 26 bytes: what is heard is danced now, none slips, it never rains. */
    static final String HEAD = "dance gap 0 odds 0 rain 0;";

    /**
     * SIDE 0 dances 0, SIDE 1 dances 1, all may meet both; none may meet 2. So there is a HOLE on
     * a SIDE just in those BEATS in which it dances 2, by a STUMBLE.
     */
    static final String CALM = HEAD + "round 0 of 0 begins 0;round 1 of 1 begins 0;answers 2;";

    private static final Map<String, List<String>> QUOTED = new LinkedHashMap<>();
    private static String now = "";
    private static int asked = 0;
    private static int wrong = 0;

    abstract void all();

    static void sentence(String where, String words, Runnable test) {
        QUOTED.computeIfAbsent(where, w -> new ArrayList<>()).add(words);
        now = where + " \"" + words + "\"";
        int before = asked;
        try {
            test.run();
        } catch (RuntimeException e) {
            complain("threw " + e);
        }
        if (asked == before) {
            complain("nothing is asked");
        }
    }

    static void due(String call, long got, long want) {
        asked++;
        if (got != want) {
            complain(call + " answered " + got + ", due is " + want);
        }
    }

    static void complain(String what) {
        wrong++;
        System.out.println(now + ": " + what);
    }

    /** Behind all sentences: what is complained of now is the document, or the tests of it. */
    static Map<String, List<String>> quoted() {
        now = "the document";
        return QUOTED;
    }

    static int askedSoFar() {
        return asked;
    }

    static int wrongSoFar() {
        return wrong;
    }

    // ---------------------------------------------------------------- what many of them need

    static OverHill told(String text) {
        return Texts.told(text);
    }

    /** A text told to a new object, and a row in its SLOT 0 of four bytes each. */
    static OverHill withRow(String text, long... numbers) {
        OverHill x = text.isEmpty() ? new OverHill() : told(text);
        putRow(x, 0, 2, numbers);
        return x;
    }

    static void putRow(OverHill x, int slot, int width, long... numbers) {
        due("row(" + slot + ", " + width + ", " + numbers.length + ")", x.row(slot, width, numbers.length), 0);
        for (int i = 0; i < numbers.length; i++) {
            due("write(" + slot + ", " + i + ", " + numbers[i] + ")", x.write(slot, i, numbers[i]), 0);
        }
    }

    static void right(String text, int lines) {
        OverHill x = new OverHill();
        due("dance() of " + text, Texts.tell(x, text), lines);
        due("fault(0) of " + text, x.fault(0), 0);
        due("fault(1) of " + text, x.fault(1), NONE);
        due("the LINES of " + text, x.count(10), lines);
        due("the TAPE behind " + text, x.count(11), 0);
    }

    static void faulty(String text, int kind, int place) {
        OverHill x = new OverHill();
        due("dance() of " + text, Texts.tell(x, text), -4);
        due("fault(0) of " + text, x.fault(0), kind);
        due("fault(1) of " + text, x.fault(1), place);
        due("the LINES with " + text, x.count(10), 0);
        due("the TAPE with " + text, x.count(11), text.length());
    }

    /** A number between two texts: the least and the most stand, one beyond is a FAULT at it. */
    static void bounds(String ahead, int least, int most, String behind, ToIntFunction<OverHill> value) {
        for (int n : new int[] {least, most}) {
            OverHill x = new OverHill();
            due("dance() is one, with " + ahead + n + behind, Texts.tell(x, ahead + n + behind) > 0 ? 1 : 0, 1);
            due("what is told by " + ahead + n + behind, value.applyAsInt(x), n);
        }
        if (least > 0) {
            faulty(ahead + (least - 1) + behind, 2, ahead.length());
        }
        faulty(ahead + (most + 1) + behind, 2, ahead.length());
        faulty(ahead + (most + (1L << 32)) + behind, 2, ahead.length());
        faulty(ahead + most + "00000000000000000000" + (most == 0 ? "1" : "") + behind, 2, ahead.length());
    }

    /** STUMBLES of CALM that make a HOLE each, on a SIDE in a BEAT. */
    static String holesAt(int... sidesAndBeats) {
        StringBuilder text = new StringBuilder(CALM);
        for (int i = 0; i < sidesAndBeats.length; i += 2) {
            text.append("stumble ").append(sidesAndBeats[i]).append(" at ").append(sidesAndBeats[i + 1]).append(" does 2 lag 0;");
        }
        return text.toString();
    }

    static String steps(int n, String step) {
        return (step + " ").repeat(n);
    }

    /** All calls that ask for a DANCE are refused, and nothing is counted but TAPE and SLOTS. */
    static void noDance(OverHill x) {
        due("step", x.step(0, 0), -2);
        due("answers", x.answers(0), -2);
        due("stumbled", x.stumbled(0, 0), -2);
        due("muddy", x.muddy(0), -2);
        due("place", x.place(0, 0), -2);
        due("danced", x.danced(0, 0), -2);
        due("hears", x.hears(0, 0), -2);
        due("late", x.late(0, 0), -2);
        due("hole", x.hole(0, 0), -2);
        due("next", x.next(0, 0), -2);
        due("holes", x.holes(0, 0, 0), -2);
        due("run", x.run(0, 0), -2);
        due("begins", x.begins(0, 0), -2);
        due("undoes", x.undoes(0), -1000);
        due("causes", x.causes(0, 0), -2);
        due("period", x.period(), -2);
        due("meets", x.meets(0, 0, 0), -2);
        due("shifted", x.shifted(0), -2);
        due("shift", x.shift(), -2);
        due("least", x.least(), -2);
        for (int side = 0; side < 2; side++) {
            due("mend", x.mend(side), -2);
            due("mended", x.mended(side, 0), -2);
            due("stuck", x.stuck(side), -2);
        }
        noDanceHeard(x);
        due("crosses", x.crosses(0), -2);
        due("returns", x.returns(0), -2);
        due("meet", x.meet(0, 0), -2);
        due("cell", x.cell(0, 0), -2);
        due("longest", x.longest(), -2);
        due("together", x.together(0, 0), -2);
        due("again", x.again(0), -2);
        due("most", x.most(), -2);
        due("chorus", x.chorus(), -2);
        due("treaties", x.treaties(), -2);
        due("leads", x.leads(0), -2);
        due("game", x.game(0), -2);
        due("plays", x.plays(0), -2);
        due("dry", x.dry(1, 0), -2);
        due("wet", x.wet(1, 0, 0), -2);
        due("drawn", x.drawn(0, 1, 0), -2);
        due("nights", x.nights(0, 1, 1), -2);
        due("stumble", x.stumble(0, 0, 0, 0), -2);
        due("mud", x.mud(0, 1), -2);
        due("teach", x.teach(0, 0, 0), -2);
        due("undo", x.undo(), -2);
        for (int what = 0; what <= 10; what++) {
            due("count(" + what + ")", x.count(what), 0);
        }
    }

    private static void noDanceHeard(OverHill x) {
        for (int slot = 0; slot < 4; slot++) {
            due("heard", x.heard(slot, 0), -2);
            due("first", x.first(slot, 0), -2);
            due("when", x.when(slot, 0), -2);
            due("listen", x.listen(slot, 0), -2);
            due("leaves", x.leaves(slot, 0), -2);
        }
    }
}
