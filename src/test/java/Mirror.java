import java.math.BigInteger;
import java.nio.charset.StandardCharsets;
import java.util.ArrayDeque;
import java.util.ArrayList;
import java.util.Arrays;
import java.util.Deque;
import java.util.HashMap;
import java.util.HashSet;
import java.util.List;
import java.util.Map;
import java.util.Set;
import java.util.TreeSet;
import java.util.function.IntPredicate;
import java.util.regex.Matcher;
import java.util.regex.Pattern;

/**
 * The document told a second time, as slowly and plainly as can be: every answer is searched for
 * by trying all that there is. It shares nothing with OverHill but the names of the calls.
 */
final class Mirror {
    static final int NONE = -1;

    static final class Fault extends RuntimeException {
        private static final long serialVersionUID = 1L;
        final int kind;
        final int place;

        Fault(int kind, int place) {
            super(null, null, false, false);
            this.kind = kind;
            this.place = place;
        }
    }

    static final class State {
        boolean stands;
        int gap, odds, rain, lines;
        List<List<Integer>> rounds = new ArrayList<>(Arrays.asList(List.of(), List.of()));
        int[] begins = new int[2];
        List<Set<Integer>> answers = new ArrayList<>();
        List<int[]> stumbles = new ArrayList<>();
        TreeSet<Integer> muds = new TreeSet<>();
        List<int[]> wood = new ArrayList<>();
        List<int[]> tunes = new ArrayList<>();
        List<State> earlier = new ArrayList<>();

        State() {
            for (int i = 0; i < 6; i++) answers.add(new TreeSet<>(List.of(0, 1, 2, 3, 4, 5)));
        }

        State copy() {
            State s = new State();
            s.stands = stands;
            s.gap = gap;
            s.odds = odds;
            s.rain = rain;
            s.lines = lines;
            s.rounds = new ArrayList<>(rounds);
            s.begins = begins.clone();
            s.answers = new ArrayList<>(answers);
            s.stumbles = new ArrayList<>(stumbles);
            s.muds = new TreeSet<>(muds);
            s.wood = new ArrayList<>(wood);
            s.tunes = new ArrayList<>(tunes);
            s.earlier = new ArrayList<>(earlier);
            return s;
        }

        boolean mayMeet(int other, int step) {
            return answers.get(step).contains(other);
        }
    }

    private byte[] tape = new byte[0];
    private State s = new State();
    private final State[] images = new State[3];
    private int faultKind = 0;
    private int faultPlace = NONE;
    private final long[][] rows = new long[4][];
    private final int[] widths = new int[4];

    // ---------------------------------------------------------------- text

    int feed(int a, int b, int c, int d, int e) {
        if (tape.length + 20 > 1200) return NONE;
        byte[] more = Arrays.copyOf(tape, tape.length + 20);
        java.nio.ByteBuffer.wrap(more, tape.length, 20).putInt(a).putInt(b).putInt(c).putInt(d).putInt(e);
        tape = more;
        return tape.length;
    }

    int end(int n) {
        if (n < 0 || n > tape.length) return NONE;
        tape = Arrays.copyOf(tape, n);
        return n;
    }

    int dance() {
        faultKind = 0;
        faultPlace = NONE;
        try {
            State read = parse(new String(tape, StandardCharsets.ISO_8859_1));
            tape = new byte[0];
            s = read;
            return s.lines;
        } catch (Fault f) {
            faultKind = f.kind;
            faultPlace = f.place;
            return -4;
        }
    }

    private static final Pattern TOKEN = Pattern.compile("[a-z]+|[0-9]+|.", Pattern.DOTALL);

    private static final class Token {
        final String text;
        final int place;

        Token(String text, int place) {
            this.text = text;
            this.place = place;
        }
    }

    private Deque<Token> tokens;

    private State parse(String text) {
        tokens = new ArrayDeque<>();
        Matcher m = TOKEN.matcher(text);
        while (m.find()) {
            if (!m.group().equals(" ") && !m.group().equals("\n")) tokens.add(new Token(m.group(), m.start()));
        }
        int length = text.length();
        tokens.add(new Token("", length));
        State r = new State();
        while (!tokens.peek().text.isEmpty()) {
            Token head = tokens.poll();
            if (head.text.equals("dance") != (r.lines == 0)) throw new Fault(1, head.place);
            switch (head.text) {
                case "dance":
                    r.gap = num("gap", 0, 20);
                    r.odds = num("odds", 0, 100);
                    r.rain = num("rain", 0, 100);
                    break;
                case "round": {
                    int side = num(null, 0, 1);
                    word("of");
                    List<Integer> steps = new ArrayList<>();
                    steps.add(num(null, 0, 5));
                    while (isNumber(tokens.peek())) {
                        int place = tokens.peek().place;
                        int t = num(null, 0, 5);
                        if (steps.size() == 12) throw new Fault(3, place);
                        steps.add(t);
                    }
                    r.begins[side] = num("begins", 0, steps.size() - 1);
                    r.rounds.set(side, steps);
                    break;
                }
                case "answers": {
                    int step = num(null, 0, 5);
                    Set<Integer> by = new TreeSet<>();
                    while (isNumber(tokens.peek())) by.add(num(null, 0, 5));
                    r.answers.set(step, by);
                    break;
                }
                case "stumble": {
                    if (r.stumbles.size() == 8) throw new Fault(3, head.place);
                    int side = num(null, 0, 1);
                    word("at");
                    int place = tokens.peek().place;
                    int beat = num(null, 0, 199);
                    for (int[] st : r.stumbles) {
                        if (st[0] == side && st[1] == beat) throw new Fault(2, place);
                    }
                    int step = num("does", 0, 5);
                    int lag = num("lag", 0, 9);
                    r.stumbles.add(new int[] {side, beat, step, lag});
                    break;
                }
                case "mud": {
                    int place = tokens.peek().place;
                    if (!r.muds.add(num(null, 0, 199))) throw new Fault(2, place);
                    break;
                }
                case "wood": {
                    if (r.wood.size() == 12) throw new Fault(3, head.place);
                    int every = num("every", 1, 9);
                    r.wood.add(new int[] {every, num("at", 0, every - 1)});
                    break;
                }
                case "tune": {
                    if (r.tunes.size() == 5) throw new Fault(3, head.place);
                    int every = num(null, 1, 30);
                    r.tunes.add(new int[] {every, num("at", 0, every - 1)});
                    break;
                }
                default:
                    throw new Fault(1, head.place);
            }
            word(";");
            r.lines++;
        }
        r.stands = r.lines > 0;
        return r;
    }

    private static boolean isNumber(Token t) {
        return t.text.matches("[0-9]+");
    }

    private void word(String w) {
        if (!tokens.peek().text.equals(w)) throw new Fault(1, tokens.peek().place);
        tokens.poll();
    }

    private int num(String before, int least, int most) {
        if (before != null) word(before);
        Token t = tokens.peek();
        if (!isNumber(t)) throw new Fault(1, t.place);
        BigInteger v = new BigInteger(t.text);
        if (v.compareTo(BigInteger.valueOf(least)) < 0 || v.compareTo(BigInteger.valueOf(most)) > 0) {
            throw new Fault(2, t.place);
        }
        tokens.poll();
        return v.intValueExact();
    }

    int fault(int what) {
        return what == 0 ? faultKind : what == 1 ? faultPlace : NONE;
    }

    private static boolean in(long v, long least, long most) {
        return v >= least && v <= most;
    }

    private boolean ok(int side, int beat) {
        return s.stands && in(side, 0, 1) && in(beat, 0, 199);
    }

    int step(int side, int i) {
        if (!s.stands || !in(side, 0, 1)) return -2;
        return in(i, 0, s.rounds.get(side).size() - 1) ? s.rounds.get(side).get(i) : NONE;
    }

    int answers(int step) {
        if (!s.stands || !in(step, 0, 5)) return -2;
        int bits = 0;
        for (int t : s.answers.get(step)) bits += 1 << t;
        return bits;
    }

    int stumbled(int stumble, int what) {
        if (!s.stands || !in(stumble, 0, s.stumbles.size() - 1) || !in(what, 0, 3)) return -2;
        return s.stumbles.get(stumble)[what];
    }

    int muddy(int beat) {
        if (!s.stands || !in(beat, 0, 199)) return -2;
        return s.muds.contains(beat) ? 1 : 0;
    }

    // ---------------------------------------------------------------- who dances what

    /** PLACES and STEPS of a SIDE, told by the STUMBLES given, the MUD given. */
    private static int[][] course(State d, int side, List<int[]> stumbles, Set<Integer> muds, int beats) {
        int[][] out = new int[2][beats];
        List<Integer> round = d.rounds.get(side);
        Arrays.fill(out[0], NONE);
        Arrays.fill(out[1], NONE);
        if (round.isEmpty()) return out;
        int place = d.begins[side];
        for (int beat = 0; beat < beats; beat++) {
            out[0][beat] = place;
            if (muds.contains(beat)) continue;
            int dances = round.get(place);
            int behind = 0;
            for (int[] st : stumbles) {
                if (st[0] == side && st[1] == beat) {
                    dances = st[2];
                    behind = st[3];
                }
            }
            out[1][beat] = dances;
            place++;
            if (place == round.size()) place = 0;
            for (int i = 0; i < behind; i++) {
                place--;
                if (place < 0) place = round.size() - 1;
            }
        }
        return out;
    }

    private static int[][] both(State d, List<int[]> stumbles, Set<Integer> muds, int beats) {
        return new int[][] {course(d, 0, stumbles, muds, beats)[1], course(d, 1, stumbles, muds, beats)[1]};
    }

    private int[][] told() {
        return both(s, s.stumbles, s.muds, 200);
    }

    private static boolean isHole(State d, int[][] steps, int side, int beat) {
        int mine = steps[side][beat];
        int theirs = beat - d.gap < 0 ? NONE : steps[1 - side][beat - d.gap];
        return mine != NONE && theirs != NONE && !d.mayMeet(theirs, mine);
    }

    private static int holesIn(State d, int[][] steps, int from, int to) {
        int n = 0;
        for (int b = from; b <= to; b++) for (int side = 0; side < 2; side++) if (isHole(d, steps, side, b)) n++;
        return n;
    }

    int place(int side, int beat) {
        return ok(side, beat) ? course(s, side, s.stumbles, s.muds, 200)[0][beat] : -2;
    }

    int danced(int side, int beat) {
        return ok(side, beat) ? told()[side][beat] : -2;
    }

    int hears(int side, int beat) {
        if (!ok(side, beat)) return -2;
        return beat < s.gap ? NONE : told()[1 - side][beat - s.gap];
    }

    int late(int side, int beat) {
        if (!ok(side, beat)) return -2;
        int size = s.rounds.get(side).size();
        if (size == 0) return NONE;
        int would = course(s, side, List.of(), Set.of(), 200)[0][beat];
        int is = place(side, beat);
        int n = 0;
        while ((is + n) % size != would) n++;
        return n;
    }

    int hole(int side, int beat) {
        return ok(side, beat) ? (isHole(s, told(), side, beat) ? 1 : 0) : -2;
    }

    int next(int side, int beat) {
        if (!ok(side, beat)) return -2;
        int[][] t = told();
        for (int b = beat; b < 200; b++) if (isHole(s, t, side, b)) return b;
        return NONE;
    }

    int holes(int side, int from, int to) {
        if (!ok(side, from) || !ok(side, to) || from > to) return -2;
        int[][] t = told();
        int n = 0;
        for (int b = from; b <= to; b++) if (isHole(s, t, side, b)) n++;
        return n;
    }

    private int[] calm(int from, int to) {
        int[][] t = told();
        int[] best = {0, NONE};
        for (int a = from; a <= to; a++) {
            int b = a;
            while (b <= to && !isHole(s, t, 0, b) && !isHole(s, t, 1, b)) b++;
            if (b - a > best[0]) best = new int[] {b - a, a};
        }
        return best;
    }

    int run(int from, int to) {
        return ok(0, from) && ok(0, to) && from <= to ? calm(from, to)[0] : -2;
    }

    int begins(int from, int to) {
        return ok(0, from) && ok(0, to) && from <= to ? calm(from, to)[1] : -2;
    }

    private List<int[]> without(int stumble) {
        List<int[]> rest = new ArrayList<>(s.stumbles);
        rest.remove(stumble);
        return rest;
    }

    int undoes(int stumble) {
        if (!s.stands || !in(stumble, 0, s.stumbles.size() - 1)) return -1000;
        return holesIn(s, told(), 0, 199) - holesIn(s, both(s, without(stumble), s.muds, 200), 0, 199);
    }

    int causes(int side, int beat) {
        if (!ok(side, beat)) return -2;
        if (!isHole(s, told(), side, beat)) return 0;
        int n = 0;
        for (int k = 0; k < s.stumbles.size(); k++) {
            if (!isHole(s, both(s, without(k), s.muds, 200), side, beat)) n++;
        }
        return n;
    }

    // ---------------------------------------------------------------- rounds

    private boolean bothRounds() {
        return s.stands && !s.rounds.get(0).isEmpty() && !s.rounds.get(1).isEmpty();
    }

    int period() {
        if (!s.stands) return -2;
        if (!bothRounds()) return NONE;
        int n = 1;
        while (n % s.rounds.get(0).size() != 0 || n % s.rounds.get(1).size() != 0) n++;
        return n;
    }

    int meets(int place, int other, int beat) {
        if (!s.stands || !in(beat, 0, 199)) return -2;
        if (!in(place, 0, s.rounds.get(0).size() - 1) || !in(other, 0, s.rounds.get(1).size() - 1)) return -2;
        int[] p = course(s, 0, List.of(), Set.of(), 600)[0];
        int[] q = course(s, 1, List.of(), Set.of(), 600)[0];
        for (int b = beat; b < 600; b++) if (p[b] == place && q[b] == other) return b;
        return NONE;
    }

    int shifted(int n) {
        if (!bothRounds() || !in(n, 0, s.rounds.get(1).size() - 1)) return -2;
        State d = s.copy();
        d.begins[1] = (d.begins[1] + n) % d.rounds.get(1).size();
        return holesIn(d, both(d, List.of(), Set.of(), 400), s.gap, s.gap + period() - 1);
    }

    int shift() {
        if (!bothRounds()) return -2;
        for (int n = 0; n < s.rounds.get(1).size(); n++) if (shifted(n) == 0) return n;
        return NONE;
    }

    int least() {
        if (!bothRounds()) return -2;
        int best = 0;
        for (int n = 0; n < s.rounds.get(1).size(); n++) if (shifted(n) < shifted(best)) best = n;
        return best;
    }

    /** For each PLACE the STEPS with which no HOLE has to do with it, in all BEATS. */
    private List<Set<Integer>> allowed(int side) {
        List<Set<Integer>> out = new ArrayList<>();
        int size = s.rounds.get(side).size();
        int[] places = course(s, side, List.of(), Set.of(), 200)[0];
        int[] other = course(s, 1 - side, List.of(), Set.of(), 200)[1];
        for (int p = 0; p < size; p++) {
            Set<Integer> set = new TreeSet<>();
            for (int x = 0; x < 6; x++) {
                boolean good = true;
                for (int b = 0; b < 200; b++) {
                    if (places[b] != p) continue;
                    if (b - s.gap >= 0 && !s.mayMeet(other[b - s.gap], x)) good = false;
                    if (b + s.gap < 200 && !s.mayMeet(x, other[b + s.gap])) good = false;
                }
                if (good) set.add(x);
            }
            out.add(set);
        }
        return out;
    }

    private List<Integer> mendedRound(int side) {
        List<Integer> out = new ArrayList<>();
        List<Set<Integer>> may = allowed(side);
        for (int p = 0; p < may.size(); p++) {
            int is = s.rounds.get(side).get(p);
            if (may.get(p).isEmpty()) return null;
            out.add(may.get(p).contains(is) ? is : may.get(p).iterator().next());
        }
        return out;
    }

    int mend(int side) {
        if (!bothRounds() || !in(side, 0, 1)) return -2;
        List<Integer> then = mendedRound(side);
        if (then == null) return NONE;
        int n = 0;
        for (int p = 0; p < then.size(); p++) if (!then.get(p).equals(s.rounds.get(side).get(p))) n++;
        return n;
    }

    /** The fewest changes by trying every ROUND there is; for short ROUNDS alone. */
    int mendByAll(int side) {
        int size = s.rounds.get(side).size();
        int best = NONE;
        for (int code = 0; code < Math.pow(6, size); code++) {
            List<Integer> round = new ArrayList<>();
            int c = code;
            int changed = 0;
            for (int p = 0; p < size; p++) {
                round.add(c % 6);
                if (c % 6 != s.rounds.get(side).get(p)) changed++;
                c /= 6;
            }
            State d = s.copy();
            d.rounds.set(side, round);
            if (holesIn(d, both(d, List.of(), Set.of(), 200), 0, 199) == 0 && (best == NONE || changed < best)) best = changed;
        }
        return best;
    }

    int mended(int side, int i) {
        if (!bothRounds() || !in(side, 0, 1) || !in(i, 0, s.rounds.get(side).size() - 1)) return -2;
        List<Integer> then = mendedRound(side);
        return then == null ? NONE : then.get(i);
    }

    int stuck(int side) {
        if (!bothRounds() || !in(side, 0, 1)) return -2;
        List<Set<Integer>> may = allowed(side);
        for (int p = 0; p < may.size(); p++) if (may.get(p).isEmpty()) return p;
        return NONE;
    }

    // ---------------------------------------------------------------- who stumbled

    private Integer refusedHeard(int slot, int side) {
        if (!in(slot, 0, 3) || !in(side, 0, 1) || !s.stands) return -2;
        if (rows[slot] == null) return -6;
        if (rows[slot].length % 2 == 1) return -2;
        for (int i = 0; i < rows[slot].length; i += 2) {
            if (!in(rows[slot][i], 0, 199) || !in(rows[slot][i + 1], -1, 5)) return -2;
        }
        return null;
    }

    /** What the SIDE hears in all BEATS by each number that fits. */
    private Map<Integer, int[]> fits(int slot, int side) {
        Map<Integer, int[]> out = new java.util.TreeMap<>();
        for (int number = 0; number <= 3600; number++) {
            List<int[]> st = new ArrayList<>();
            if (number > 0) {
                int n = number - 1;
                st.add(new int[] {1 - side, n / 60, n / 10 % 6, n % 10});
            }
            int[] steps = course(s, 1 - side, st, s.muds, 200)[1];
            int[] hears = new int[200];
            for (int b = 0; b < 200; b++) hears[b] = b < s.gap ? NONE : steps[b - s.gap];
            boolean all = true;
            for (int i = 0; i < rows[slot].length; i += 2) {
                if (hears[(int) rows[slot][i]] != rows[slot][i + 1]) all = false;
            }
            if (all) out.put(number, hears);
        }
        return out;
    }

    int heard(int slot, int side) {
        Integer r = refusedHeard(slot, side);
        return r != null ? r : fits(slot, side).size();
    }

    int first(int slot, int side) {
        Integer r = refusedHeard(slot, side);
        if (r != null) return r;
        Map<Integer, int[]> f = fits(slot, side);
        return f.isEmpty() ? NONE : f.keySet().iterator().next();
    }

    long when(int slot, int side) {
        Integer r = refusedHeard(slot, side);
        if (r != null) return r;
        long bits = 0;
        for (int number : fits(slot, side).keySet()) if (number > 0) bits |= 1L << (number - 1) / 60;
        return bits;
    }

    private int[] listening(int slot, int side) {
        Map<Integer, int[]> f = fits(slot, side);
        int[] best = {NONE, f.size()};
        for (int b = 0; b < 80; b++) {
            int[] n = new int[7];
            for (int[] hears : f.values()) n[hears[b] + 1]++;
            int worst = Arrays.stream(n).max().getAsInt();
            if (worst < best[1]) best = new int[] {b, worst};
        }
        return best;
    }

    int listen(int slot, int side) {
        Integer r = refusedHeard(slot, side);
        return r != null ? r : listening(slot, side)[0];
    }

    int leaves(int slot, int side) {
        Integer r = refusedHeard(slot, side);
        return r != null ? r : listening(slot, side)[1];
    }

    // ---------------------------------------------------------------- wood

    /** Cells (NONE: the SIDE left, cells: the other SIDE) in which one may be, BEAT by BEAT. */
    private List<Set<Integer>> walk(int side, int beat, int beats) {
        int n = s.wood.size();
        List<Set<Integer>> out = new ArrayList<>();
        for (int b = 0; b < beat; b++) out.add(Set.of());
        Set<Integer> at = new HashSet<>(List.of(-1));
        for (int b = beat; b < beats; b++) {
            out.add(at);
            Set<Integer> then = new HashSet<>(at);
            for (int c : at) {
                if (c == n) continue;
                if (c + 1 == n) {
                    then.add(n);
                } else {
                    int[] cell = s.wood.get(side == 0 ? c + 1 : n - 2 - c);
                    if (b % cell[0] == cell[1]) then.add(c + 1);
                }
            }
            at = then;
        }
        return out;
    }

    private int firstThere(int side, int beat) {
        List<Set<Integer>> w = walk(side, beat, beat + 140);
        for (int b = beat; b < beat + 140; b++) if (w.get(b).contains(s.wood.size())) return b;
        throw new IllegalStateException("no way through the wood");
    }

    int crosses(int beat) {
        return ok(0, beat) ? firstThere(0, beat) : -2;
    }

    int returns(int beat) {
        return ok(0, beat) ? firstThere(1, beat) : -2;
    }

    private int[] meeting(int beat, int other) {
        int n = s.wood.size();
        List<Set<Integer>> a = walk(0, beat, 400);
        List<Set<Integer>> b = walk(1, other, 400);
        for (int t = 0; t < 400; t++) {
            for (int c = 0; c < n; c++) if (a.get(t).contains(c) && b.get(t).contains(n - 1 - c)) return new int[] {t, c};
        }
        return new int[] {NONE, NONE};
    }

    int meet(int beat, int other) {
        return ok(0, beat) && ok(0, other) ? meeting(beat, other)[0] : -2;
    }

    int cell(int beat, int other) {
        return ok(0, beat) && ok(0, other) ? meeting(beat, other)[1] : -2;
    }

    int longest() {
        if (!s.stands) return -2;
        int n = 0;
        for (int b = 0; b < 200; b++) n = Math.max(n, firstThere(0, b) - b);
        return n;
    }

    // ---------------------------------------------------------------- half

    private Integer refusedHalf(int slot) {
        if (!in(slot, 0, 3)) return -2;
        if (rows[slot] == null) return -6;
        for (long v : rows[slot]) if (!in(v, -1, 5)) return -2;
        return null;
    }

    private int[] shortest(int slot) {
        for (int size = 1; size <= 12; size++) {
            int[] round = new int[size];
            Arrays.fill(round, NONE);
            boolean good = true;
            for (int i = 0; i < rows[slot].length; i++) {
                int v = (int) rows[slot][i];
                if (v == NONE) continue;
                if (round[i % size] != NONE && round[i % size] != v) good = false;
                round[i % size] = v;
            }
            if (good) return round;
        }
        return null;
    }

    int half(int slot) {
        Integer r = refusedHalf(slot);
        if (r != null) return r;
        return shortest(slot) == null ? NONE : shortest(slot).length;
    }

    int fills(int slot, int i) {
        Integer r = refusedHalf(slot);
        if (r != null) return r;
        int[] round = shortest(slot);
        return round == null || !in(i, 0, round.length - 1) ? NONE : round[i];
    }

    int open(int slot) {
        Integer r = refusedHalf(slot);
        if (r != null) return r;
        int[] round = shortest(slot);
        return round == null ? NONE : (int) Arrays.stream(round).filter(v -> v == NONE).count();
    }

    // ---------------------------------------------------------------- tunes

    private boolean isSet(int set) {
        return s.stands && in(set, 0, (1 << s.tunes.size()) - 1);
    }

    private List<int[]> tunesOf(int set) {
        List<int[]> out = new ArrayList<>();
        for (int k = 0; k < s.tunes.size(); k++) if ((set & 1 << k) != 0) out.add(s.tunes.get(k));
        return out;
    }

    private static long lcm(List<int[]> tunes) {
        BigInteger n = BigInteger.ONE;
        for (int[] t : tunes) {
            BigInteger v = BigInteger.valueOf(t[0]);
            n = n.multiply(v).divide(n.gcd(v));
        }
        return n.longValueExact();
    }

    long together(int set, int beat) {
        if (!isSet(set) || !in(beat, 0, 199)) return -2;
        List<int[]> t = tunesOf(set);
        long end = beat + lcm(t);
        for (long b = beat; b < end; b++) {
            boolean all = true;
            for (int[] tune : t) if (b % tune[0] != tune[1]) all = false;
            if (all) return b;
        }
        return NONE;
    }

    long again(int set) {
        return isSet(set) ? lcm(tunesOf(set)) : -2;
    }

    private boolean agree(int set) {
        for (int[] a : tunesOf(set)) {
            for (int[] b : tunesOf(set)) {
                int g = BigInteger.valueOf(a[0]).gcd(BigInteger.valueOf(b[0])).intValue();
                if (a[1] % g != b[1] % g) return false;
            }
        }
        return true;
    }

    int most() {
        if (!s.stands) return -2;
        int n = 0;
        for (int set = 0; set < 1 << s.tunes.size(); set++) if (agree(set)) n = Math.max(n, Integer.bitCount(set));
        return n;
    }

    int chorus() {
        if (!s.stands) return -2;
        int n = most();
        for (int set = 0;; set++) if (Integer.bitCount(set) == n && agree(set)) return set;
    }

    // ---------------------------------------------------------------- steps

    int treaties() {
        if (!s.stands) return -2;
        int n = 0;
        for (int a = 0; a < 6; a++) for (int b = 0; b < 6; b++) if (s.mayMeet(a, b) && s.mayMeet(b, a)) n++;
        return n;
    }

    int leads(int what) {
        if (!s.stands || !in(what, 0, 1)) return -2;
        int[] n = new int[6];
        for (int i = 0; i < 6; i++) n[i] = s.answers.get(i).size();
        int want = what == 0 ? Arrays.stream(n).max().getAsInt() : Arrays.stream(n).min().getAsInt();
        for (int i = 0;; i++) if (n[i] == want) return i;
    }

    private boolean wins(int latest, int[] danced, Map<String, Boolean> known) {
        String key = latest + Arrays.toString(danced);
        Boolean k = known.get(key);
        if (k != null) return k;
        boolean w = winning(latest, danced, known) != NONE;
        known.put(key, w);
        return w;
    }

    private int winning(int latest, int[] danced, Map<String, Boolean> known) {
        for (int t : s.answers.get(latest)) {
            if (danced[t] > 1) continue;
            int[] then = danced.clone();
            then[t]++;
            if (!wins(t, then, known)) return t;
        }
        return NONE;
    }

    int plays(int step) {
        if (!s.stands || !in(step, 0, 5)) return -2;
        int[] danced = new int[6];
        danced[step] = 1;
        return winning(step, danced, new HashMap<>());
    }

    int game(int step) {
        int p = plays(step);
        return p == -2 ? -2 : p == NONE ? 0 : 1;
    }

    // ---------------------------------------------------------------- rain and nights

    private static long told(BigInteger above, BigInteger below, int what) {
        BigInteger g = above.gcd(below);
        return (what == 0 ? above : below).divide(g).longValueExact();
    }

    long dry(int n, int what) {
        if (!s.stands || !in(n, 1, 9) || !in(what, 0, 1)) return -2;
        return told(BigInteger.valueOf(100 - s.rain).pow(n), BigInteger.valueOf(100).pow(n), what);
    }

    long wet(int n, int k, int what) {
        if (!s.stands || !in(n, 1, 9) || !in(what, 0, 1) || !in(k, 0, n)) return -2;
        BigInteger sum = BigInteger.ZERO;
        for (int rains = 0; rains < 1 << n; rains++) {
            if (Integer.bitCount(rains) != k) continue;
            BigInteger p = BigInteger.ONE;
            for (int b = 0; b < n; b++) p = p.multiply(BigInteger.valueOf((rains >> b & 1) == 1 ? s.rain : 100 - s.rain));
            sum = sum.add(p);
        }
        return told(sum, BigInteger.valueOf(100).pow(n), what);
    }

    private int[] night(int seed, int n) {
        BigInteger[] x = {BigInteger.valueOf(seed)};
        IntPredicate below = bound -> {
            x[0] = x[0].multiply(BigInteger.valueOf(1103515245)).add(BigInteger.valueOf(12345)).mod(BigInteger.valueOf(2147483648L));
            return x[0].divide(BigInteger.valueOf(65536)).mod(BigInteger.valueOf(100)).intValue() < bound;
        };
        int[] place = s.begins.clone();
        int[][] steps = new int[2][n];
        int[] out = {0, NONE, 0, 0};
        for (int b = 0; b < n; b++) {
            steps[0][b] = NONE;
            steps[1][b] = NONE;
            if (below.test(s.rain)) {
                out[2]++;
            } else {
                for (int side = 0; side < 2; side++) {
                    List<Integer> round = s.rounds.get(side);
                    if (round.isEmpty()) continue;
                    int t = round.get(place[side]);
                    if (below.test(s.odds)) {
                        out[3]++;
                        t = t == 5 ? 0 : t + 1;
                    }
                    steps[side][b] = t;
                    place[side] = (place[side] + 1) % round.size();
                }
            }
        }
        for (int b = n - 1; b >= 0; b--) if (isHole(s, steps, 0, b) || isHole(s, steps, 1, b)) out[1] = b;
        out[0] = holesIn(s, steps, 0, n - 1);
        return out;
    }

    int drawn(int seed, int n, int what) {
        if (!s.stands || !in(seed, 0, 2000000000) || !in(n, 1, 100) || !in(what, 0, 3)) return -2;
        return night(seed, n)[what];
    }

    int nights(int seed, int m, int n) {
        if (!s.stands || !in(seed, 0, 2000000000) || !in(n, 1, 100) || !in(m, 1, 20)) return -2;
        int calm = 0;
        for (int i = 0; i < m; i++) if (night(seed + i, n)[0] == 0) calm++;
        return calm;
    }

    // ---------------------------------------------------------------- changes

    private void change(State then) {
        then.earlier.add(s);
        s = then;
    }

    int stumble(int side, int beat, int step, int lag) {
        if (!ok(side, beat) || !in(step, 0, 5) || !in(lag, 0, 9)) return -2;
        if (s.stumbles.size() == 8 || s.earlier.size() == 40) return -5;
        for (int[] st : s.stumbles) if (st[0] == side && st[1] == beat) return -5;
        State then = s.copy();
        then.stumbles.add(new int[] {side, beat, step, lag});
        change(then);
        return then.stumbles.size() - 1;
    }

    int mud(int beat, int is) {
        if (!ok(0, beat) || !in(is, 0, 1)) return -2;
        if (s.earlier.size() == 40) return -5;
        State then = s.copy();
        if (is == 1) then.muds.add(beat);
        else then.muds.remove(beat);
        int was = s.muds.contains(beat) ? 1 : 0;
        change(then);
        return was;
    }

    int teach(int side, int place, int step) {
        if (!s.stands || !in(side, 0, 1) || !in(place, 0, s.rounds.get(side).size() - 1) || !in(step, 0, 5)) return -2;
        if (s.earlier.size() == 40) return -5;
        State then = s.copy();
        List<Integer> round = new ArrayList<>(s.rounds.get(side));
        int was = round.set(place, step);
        then.rounds.set(side, round);
        change(then);
        return was;
    }

    int undo() {
        if (!s.stands) return -2;
        if (s.earlier.isEmpty()) return -5;
        s = s.earlier.get(s.earlier.size() - 1);
        return s.earlier.size();
    }

    int count(int what) {
        switch (what) {
            case 0: return s.gap;
            case 1: return s.odds;
            case 2: return s.rain;
            case 3: return s.rounds.get(0).size();
            case 4: return s.rounds.get(1).size();
            case 5: return s.stumbles.size();
            case 6: return s.muds.size();
            case 7: return s.wood.size();
            case 8: return s.tunes.size();
            case 9: return s.earlier.size();
            case 10: return s.lines;
            case 11: return tape.length;
            case 12: return (int) Arrays.stream(rows).filter(r -> r != null).count();
            default: return NONE;
        }
    }

    int image(int k) {
        if (!in(k, 0, 2)) return -2;
        images[k] = s;
        return 0;
    }

    int back(int k) {
        if (!in(k, 0, 2)) return -2;
        if (images[k] == null) return -6;
        s = images[k];
        return 0;
    }

    // ---------------------------------------------------------------- rows

    int row(int slot, int width, int n) {
        if (!in(slot, 0, 3) || !in(width, 0, 3) || n > 60) return -2;
        if (n < 0) return -3;
        rows[slot] = new long[n];
        widths[slot] = width;
        return 0;
    }

    int write(int slot, int i, long v) {
        if (!in(slot, 0, 3)) return -2;
        if (rows[slot] == null) return -6;
        if (!in(i, 0, rows[slot].length - 1)) return -7;
        int bits = 8 << widths[slot];
        rows[slot][i] = v << 64 - bits >> 64 - bits;
        return 0;
    }

    int paste(int slot, int i, int to, int k, int n) {
        if (!in(slot, 0, 3) || !in(to, 0, 3)) return -2;
        if (rows[slot] == null || rows[to] == null) return -6;
        if (widths[slot] != widths[to]) return -8;
        if (i < 0 || k < 0 || n < 0 || (long) i + n > rows[slot].length || (long) k + n > rows[to].length) return -7;
        long[] taken = Arrays.copyOfRange(rows[slot], i, i + n);
        for (int j = 0; j < n; j++) rows[to][k + j] = taken[j];
        return 0;
    }
}
