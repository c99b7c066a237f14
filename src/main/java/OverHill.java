import java.util.Arrays;

/** A dance in two villages; README.md says how it is used. */
public final class OverHill {
    public static final int NONE = -1;

    private static final int NO_SUCH = -2;
    private static final int BELOW_ZERO = -3;
    private static final int FAULTY = -4;
    private static final int REFUSED = -5;
    private static final int NOTHING = -6;
    private static final int BEYOND = -7;
    private static final int UNLIKE = -8;
    private static final int NO_STUMBLE = -1000;

    private static final int SIDES = 2;
    private static final int STEPS = 6;
    private static final int ALL_STEPS = 63;
    private static final int BEATS = 200;
    private static final int PLACES = 12;
    private static final int LAGS = 10;
    private static final int STUMBLES = 8;
    private static final int STUMBLE_PARTS = 4;
    private static final int CELLS = 12;
    private static final int TUNES = 5;
    private static final int CHANGES = 40;
    private static final int CHANGE_PARTS = 3;
    private static final int IMAGES = 3;
    private static final int HUNDRED = 100;
    private static final int TAPE_BYTES = 1200;
    private static final int FED_BYTES = 20;
    private static final int DRY_BEATS = 9;
    private static final int NIGHT_BEATS = 100;
    private static final int NIGHTS = 20;
    private static final int LARGEST_SEED = 2000000000;

    private static final int BY_STUMBLE = 0;
    private static final int BY_MUD = 1;
    private static final int BY_TEACHING = 2;

    private final Reader reader = new Reader();
    private final Tape tape = reader.tape;
    private Dance now = new Dance();
    private Dance spare = new Dance();
    private final Dance[] images = new Dance[IMAGES];
    private final int[] kept = new int[IMAGES];
    private final Floor floor = new Floor();
    private final Floor trial = new Floor();
    private boolean laid = false;
    private final Rounds rounds = new Rounds();
    private final Guess guess = new Guess();
    private final Wood wood = new Wood();
    private final Tunes tunes = new Tunes();
    private final Game games = new Game();
    private final Night night = new Night();
    private final Slots slots = new Slots();

    public OverHill() {
        for (int k = 0; k < IMAGES; k++) {
            images[k] = new Dance();
        }
    }

    // The text

    public int feed(int a, int b, int c, int d, int e) {
        if (tape.length + FED_BYTES > TAPE_BYTES) {
            return NONE;
        }
        tape.push(a);
        tape.push(b);
        tape.push(c);
        tape.push(d);
        tape.push(e);
        return tape.length;
    }

    public int end(int n) {
        if (n < 0 || n > tape.length) {
            return NONE;
        }
        tape.length = n;
        return n;
    }

    public int dance() {
        if (!reader.read(spare)) {
            return FAULTY;
        }
        Dance old = now;
        now = spare;
        spare = old;
        tape.length = 0;
        laid = false;
        return now.lines;
    }

    public int fault(int what) {
        switch (what) {
            case 0:
                return reader.fault;
            case 1:
                return reader.faultPlace;
            default:
                return NONE;
        }
    }

    public int step(int side, int i) {
        if (!now.stands() || !isSide(side)) {
            return NO_SUCH;
        }
        return now.hasPlace(side, i) ? now.stepAt(side, i) : NONE;
    }

    public int answers(int step) {
        return now.stands() && isStep(step) ? now.met[step] : NO_SUCH;
    }

    public int stumbled(int stumble, int what) {
        if (!now.hasStumble(stumble) || !isWithin(what, STUMBLE_PARTS)) {
            return NO_SUCH;
        }
        return now.stumbles[stumble * STUMBLE_PARTS + what];
    }

    public int muddy(int beat) {
        return now.stands() && isBeat(beat) ? now.muds[beat] : NO_SUCH;
    }

    // Who dances and hears what

    public int place(int side, int beat) {
        return has(side, beat) ? plainFloor().placeOf(side, beat) : NO_SUCH;
    }

    public int danced(int side, int beat) {
        return has(side, beat) ? plainFloor().stepOf(side, beat) : NO_SUCH;
    }

    public int hears(int side, int beat) {
        return has(side, beat) ? plainFloor().heardBy(side, beat) : NO_SUCH;
    }

    public int late(int side, int beat) {
        if (!has(side, beat)) {
            return NO_SUCH;
        }
        int length = now.lengths[side];
        if (length == 0) {
            return NONE;
        }
        return wrap(now.starts[side] + beat - plainFloor().placeOf(side, beat), length);
    }

    public int hole(int side, int beat) {
        if (!has(side, beat)) {
            return NO_SUCH;
        }
        return plainFloor().gapes(now, side, beat) ? 1 : 0;
    }

    public int next(int side, int beat) {
        if (!has(side, beat)) {
            return NO_SUCH;
        }
        Floor plain = plainFloor();
        for (int b = beat; b < BEATS; b++) {
            if (plain.gapes(now, side, b)) {
                return b;
            }
        }
        return NONE;
    }

    public int holes(int side, int from, int to) {
        if (!isSide(side) || !hasSpan(from, to)) {
            return NO_SUCH;
        }
        return plainFloor().countHoles(now, side, from, to);
    }

    public int run(int from, int to) {
        if (!hasSpan(from, to)) {
            return NO_SUCH;
        }
        plainFloor().findCalm(now, from, to);
        return floor.calmLength;
    }

    public int begins(int from, int to) {
        if (!hasSpan(from, to)) {
            return NO_SUCH;
        }
        plainFloor().findCalm(now, from, to);
        return floor.calmStart;
    }

    public int undoes(int stumble) {
        if (!now.hasStumble(stumble)) {
            return NO_STUMBLE;
        }
        trial.lay(now, stumble);
        return plainFloor().countAllHoles(now) - trial.countAllHoles(now);
    }

    public int causes(int side, int beat) {
        if (!has(side, beat)) {
            return NO_SUCH;
        }
        if (!plainFloor().gapes(now, side, beat)) {
            return 0;
        }
        int causing = 0;
        for (int k = 0; k < now.stumbleCount; k++) {
            trial.lay(now, k);
            if (!trial.gapes(now, side, beat)) {
                causing++;
            }
        }
        return causing;
    }

    // Rounds shifted and mended

    public int period() {
        if (!now.stands()) {
            return NO_SUCH;
        }
        return now.hasBothRounds() ? Rounds.periodOf(now) : NONE;
    }

    public int meets(int place, int other, int beat) {
        if (!now.stands() || !now.hasPlace(0, place) || !now.hasPlace(1, other) || !isBeat(beat)) {
            return NO_SUCH;
        }
        return Rounds.firstIn(now, place, other, beat);
    }

    public int shifted(int n) {
        if (!hasRounds() || !isWithin(n, now.lengths[1])) {
            return NO_SUCH;
        }
        return Rounds.holesShifted(now, n);
    }

    public int shift() {
        if (!hasRounds()) {
            return NO_SUCH;
        }
        int n = Rounds.leastShift(now);
        return Rounds.holesShifted(now, n) == 0 ? n : NONE;
    }

    public int least() {
        return hasRounds() ? Rounds.leastShift(now) : NO_SUCH;
    }

    public int mend(int side) {
        if (!hasRounds() || !isSide(side)) {
            return NO_SUCH;
        }
        rounds.findFits(now, side);
        return rounds.firstStuck(now, side) == NONE ? rounds.countChanged(now, side) : NONE;
    }

    public int mended(int side, int i) {
        if (!hasRounds() || !isSide(side) || !now.hasPlace(side, i)) {
            return NO_SUCH;
        }
        rounds.findFits(now, side);
        return rounds.firstStuck(now, side) == NONE ? rounds.fitting(now, side, i) : NONE;
    }

    public int stuck(int side) {
        if (!hasRounds() || !isSide(side)) {
            return NO_SUCH;
        }
        rounds.findFits(now, side);
        return rounds.firstStuck(now, side);
    }

    // Who stumbled

    public int heard(int slot, int side) {
        int refusal = listenTo(slot, side);
        return refusal < 0 ? refusal : guess.countFits();
    }

    public int first(int slot, int side) {
        int refusal = listenTo(slot, side);
        return refusal < 0 ? refusal : guess.leastFit();
    }

    public long when(int slot, int side) {
        int refusal = listenTo(slot, side);
        return refusal < 0 ? refusal : guess.beatsOfFits();
    }

    public int listen(int slot, int side) {
        int refusal = listenTo(slot, side);
        if (refusal < 0) {
            return refusal;
        }
        guess.findBeat();
        return guess.bestBeat;
    }

    public int leaves(int slot, int side) {
        int refusal = listenTo(slot, side);
        if (refusal < 0) {
            return refusal;
        }
        guess.findBeat();
        return guess.bestLeft;
    }

    // The wood

    public int crosses(int beat) {
        return now.stands() && isBeat(beat) ? wood.through(now, 0, beat) : NO_SUCH;
    }

    public int returns(int beat) {
        return now.stands() && isBeat(beat) ? wood.through(now, 1, beat) : NO_SUCH;
    }

    public int meet(int beat, int other) {
        if (!now.stands() || !isBeat(beat) || !isBeat(other)) {
            return NO_SUCH;
        }
        wood.findMeeting(now, beat, other);
        return wood.meetingBeat;
    }

    public int cell(int beat, int other) {
        if (!now.stands() || !isBeat(beat) || !isBeat(other)) {
            return NO_SUCH;
        }
        wood.findMeeting(now, beat, other);
        return wood.meetingCell;
    }

    public int longest() {
        return now.stands() ? wood.slowest(now) : NO_SUCH;
    }

    // A round half heard

    public int half(int slot) {
        int refusal = slots.refusalOfSteps(slot);
        return refusal < 0 ? refusal : slots.shortest(slot);
    }

    public int fills(int slot, int i) {
        int refusal = slots.refusalOfSteps(slot);
        if (refusal < 0) {
            return refusal;
        }
        int length = slots.shortest(slot);
        return isWithin(i, length) ? slots.told(slot, length, i) : NONE;
    }

    public int open(int slot) {
        int refusal = slots.refusalOfSteps(slot);
        if (refusal < 0) {
            return refusal;
        }
        int length = slots.shortest(slot);
        return length == NONE ? NONE : slots.countUntold(slot, length);
    }

    // Tunes

    public long together(int set, int beat) {
        if (!hasSet(set) || !isBeat(beat)) {
            return NO_SUCH;
        }
        tunes.join(now, set);
        return tunes.firstFrom(beat);
    }

    public long again(int set) {
        if (!hasSet(set)) {
            return NO_SUCH;
        }
        tunes.join(now, set);
        return tunes.every;
    }

    public int most() {
        return now.stands() ? Integer.bitCount(tunes.largestSet(now)) : NO_SUCH;
    }

    public int chorus() {
        return now.stands() ? tunes.largestSet(now) : NO_SUCH;
    }

    // Steps that may meet, and the game

    public int treaties() {
        if (!now.stands()) {
            return NO_SUCH;
        }
        int pairs = 0;
        for (int one = 0; one < STEPS; one++) {
            for (int other = 0; other < STEPS; other++) {
                if (now.mayMeet(one, other) && now.mayMeet(other, one)) {
                    pairs++;
                }
            }
        }
        return pairs;
    }

    public int leads(int what) {
        if (!now.stands() || !isWithin(what, 2)) {
            return NO_SUCH;
        }
        int sign = what == 0 ? 1 : -1;
        int best = 0;
        for (int step = 1; step < STEPS; step++) {
            if (sign * Integer.bitCount(now.met[step]) > sign * Integer.bitCount(now.met[best])) {
                best = step;
            }
        }
        return best;
    }

    public int game(int step) {
        if (!now.stands() || !isStep(step)) {
            return NO_SUCH;
        }
        return games.winningStep(now, step) == NONE ? 0 : 1;
    }

    public int plays(int step) {
        return now.stands() && isStep(step) ? games.winningStep(now, step) : NO_SUCH;
    }

    // Rain and nights

    public long dry(int n, int what) {
        return wet(n, 0, what);
    }

    public long wet(int n, int k, int what) {
        if (!now.stands() || n < 1 || n > DRY_BEATS || !isWithin(k, n + 1) || !isWithin(what, 2)) {
            return NO_SUCH;
        }
        // Never above 100 to the ninth: it is one part of (rain + the rest) to the n-th.
        long above = choices(n, k) * power(now.rain, k) * power(HUNDRED - now.rain, n - k);
        long below = power(HUNDRED, n);
        long common = commonDivisor(above, below);
        if (common == 0) {
            return NO_SUCH;
        }
        return (what == 0 ? above : below) / common;
    }

    public int drawn(int seed, int n, int what) {
        if (!hasNight(seed, n) || !isWithin(what, 4)) {
            return NO_SUCH;
        }
        night.play(now, seed, n);
        switch (what) {
            case 0:
                return night.holeCount;
            case 1:
                return night.firstHole;
            case 2:
                return night.mudCount;
            default:
                return night.slipCount;
        }
    }

    public int nights(int seed, int m, int n) {
        if (!hasNight(seed, n) || m < 1 || m > NIGHTS) {
            return NO_SUCH;
        }
        int calm = 0;
        for (int i = 0; i < m; i++) {
            night.play(now, seed + i, n);
            if (night.holeCount == 0) {
                calm++;
            }
        }
        return calm;
    }

    // Changes and images

    public int stumble(int side, int beat, int step, int lag) {
        if (!has(side, beat) || !isStep(step) || !isWithin(lag, LAGS)) {
            return NO_SUCH;
        }
        boolean full = now.stumbleCount >= STUMBLES || now.changeCount >= CHANGES;
        if (full || now.stumbleOf(side, beat) != NONE) {
            return REFUSED;
        }
        now.keepChange(BY_STUMBLE, 0, 0);
        now.addStumble(side, beat, step, lag);
        laid = false;
        return now.stumbleCount - 1;
    }

    public int mud(int beat, int is) {
        if (!now.stands() || !isBeat(beat) || !isWithin(is, 2)) {
            return NO_SUCH;
        }
        if (now.changeCount >= CHANGES) {
            return REFUSED;
        }
        int was = now.muds[beat];
        now.keepChange(BY_MUD, beat, was);
        now.muds[beat] = is;
        laid = false;
        return was;
    }

    public int teach(int side, int place, int step) {
        if (!now.stands() || !isSide(side) || !now.hasPlace(side, place) || !isStep(step)) {
            return NO_SUCH;
        }
        if (now.changeCount >= CHANGES) {
            return REFUSED;
        }
        int at = side * PLACES + place;
        int was = now.steps[at];
        now.keepChange(BY_TEACHING, at, was);
        now.steps[at] = step;
        laid = false;
        return was;
    }

    public int undo() {
        if (!now.stands()) {
            return NO_SUCH;
        }
        if (now.changeCount == 0) {
            return REFUSED;
        }
        now.takeBack();
        laid = false;
        return now.changeCount;
    }

    public int count(int what) {
        switch (what) {
            case 0:
                return now.gap;
            case 1:
                return now.odds;
            case 2:
                return now.rain;
            case 3:
                return now.lengths[0];
            case 4:
                return now.lengths[1];
            case 5:
                return now.stumbleCount;
            case 6:
                return now.countMuds();
            case 7:
                return now.cellCount;
            case 8:
                return now.tuneCount;
            case 9:
                return now.changeCount;
            case 10:
                return now.lines;
            case 11:
                return tape.length;
            case 12:
                return slots.countRows();
            default:
                return NONE;
        }
    }

    public int image(int k) {
        if (!isWithin(k, IMAGES)) {
            return NO_SUCH;
        }
        images[k].copyFrom(now);
        kept[k] = 1;
        return 0;
    }

    public int back(int k) {
        if (!isWithin(k, IMAGES)) {
            return NO_SUCH;
        }
        if (kept[k] == 0) {
            return NOTHING;
        }
        now.copyFrom(images[k]);
        laid = false;
        return 0;
    }

    // Rows of numbers

    public int row(int slot, int width, int n) {
        if (!Slots.isSlot(slot) || !isWithin(width, Slots.WIDTHS) || n > Slots.LONGEST) {
            return NO_SUCH;
        }
        if (n < 0) {
            return BELOW_ZERO;
        }
        slots.make(slot, width, n);
        return 0;
    }

    public int write(int slot, int i, long v) {
        if (!Slots.isSlot(slot)) {
            return NO_SUCH;
        }
        if (!slots.has(slot)) {
            return NOTHING;
        }
        if (!isWithin(i, slots.sizes[slot])) {
            return BEYOND;
        }
        slots.put(slot, i, v);
        return 0;
    }

    public int paste(int slot, int i, int to, int k, int n) {
        if (!Slots.isSlot(slot) || !Slots.isSlot(to)) {
            return NO_SUCH;
        }
        if (!slots.has(slot) || !slots.has(to)) {
            return NOTHING;
        }
        if (slots.widths[slot] != slots.widths[to]) {
            return UNLIKE;
        }
        if (!slots.holds(slot, i, n) || !slots.holds(to, k, n)) {
            return BEYOND;
        }
        slots.move(slot, i, to, k, n);
        return 0;
    }

    // What there is

    private boolean has(int side, int beat) {
        return now.stands() && isSide(side) && isBeat(beat);
    }

    private boolean hasSpan(int from, int to) {
        return now.stands() && isBeat(from) && isBeat(to) && from <= to;
    }

    private boolean hasRounds() {
        return now.stands() && now.hasBothRounds();
    }

    private boolean hasSet(int set) {
        return now.stands() && isWithin(set, 1 << now.tuneCount);
    }

    private boolean hasNight(int seed, int n) {
        return now.stands() && seed >= 0 && seed <= LARGEST_SEED && n >= 1 && n <= NIGHT_BEATS;
    }

    private static boolean isWithin(int value, int size) {
        return value >= 0 && value < size;
    }

    private static boolean isSide(int side) {
        return isWithin(side, SIDES);
    }

    private static boolean isStep(int step) {
        return isWithin(step, STEPS);
    }

    private static boolean isBeat(int beat) {
        return isWithin(beat, BEATS);
    }

    // Laid once and used until the DANCE changes, as most calls ask for it.
    private Floor plainFloor() {
        if (!laid) {
            floor.lay(now, NONE);
            laid = true;
        }
        return floor;
    }

    /** 0, and the guess is ready; else the answer by which the call is refused. */
    private int listenTo(int slot, int side) {
        if (!now.stands() || !isSide(side)) {
            return NO_SUCH;
        }
        int refusal = slots.refusalOfHeard(slot);
        if (refusal < 0) {
            return refusal;
        }
        guess.begin(now, 1 - side);
        for (int i = 0; i + 1 < slots.sizes[slot]; i += 2) {
            guess.hear((int) slots.at(slot, i), (int) slots.at(slot, i + 1));
        }
        return 0;
    }

    // Sums

    private static int wrap(int value, int size) {
        return size > 0 ? Math.floorMod(value, size) : 0;
    }

    private static long commonDivisor(long a, long b) {
        long larger = a;
        long smaller = b;
        // Euclid's rest at least halves in two rounds, so a long needs fewer.
        for (int i = 0; i < 200 && smaller != 0; i++) {
            long rest = larger % smaller;
            larger = smaller;
            smaller = rest;
        }
        return larger;
    }

    private static long commonMultiple(long a, long b) {
        long common = commonDivisor(a, b);
        return common == 0 ? 0 : a / common * b;
    }

    private static long power(int base, int exponent) {
        long product = 1;
        for (int i = 0; i < exponent; i++) {
            product *= base;
        }
        return product;
    }

    private static long choices(int n, int k) {
        long ways = 1;
        for (int i = 1; i <= k; i++) {
            ways = ways * (n - k + i) / i;
        }
        return ways;
    }

    /** A DANCE and the changes made to it; without a LINE it is none. */
    private static final class Dance {
        int gap;
        int odds;
        int rain;
        int lines;
        final int[] steps = new int[SIDES * PLACES];
        final int[] lengths = new int[SIDES];
        final int[] starts = new int[SIDES];
        final int[] met = new int[STEPS];
        final int[] stumbles = new int[STUMBLES * STUMBLE_PARTS];
        int stumbleCount;
        final int[] muds = new int[BEATS];
        final int[] cells = new int[CELLS * 2];
        int cellCount;
        final int[] tunes = new int[TUNES * 2];
        int tuneCount;
        final int[] changes = new int[CHANGES * CHANGE_PARTS];
        int changeCount;

        void clear() {
            gap = 0;
            odds = 0;
            rain = 0;
            lines = 0;
            Arrays.fill(lengths, 0);
            Arrays.fill(starts, 0);
            Arrays.fill(met, ALL_STEPS);
            Arrays.fill(muds, 0);
            stumbleCount = 0;
            cellCount = 0;
            tuneCount = 0;
            changeCount = 0;
        }

        void copyFrom(Dance other) {
            gap = other.gap;
            odds = other.odds;
            rain = other.rain;
            lines = other.lines;
            stumbleCount = other.stumbleCount;
            cellCount = other.cellCount;
            tuneCount = other.tuneCount;
            changeCount = other.changeCount;
            System.arraycopy(other.steps, 0, steps, 0, steps.length);
            System.arraycopy(other.lengths, 0, lengths, 0, lengths.length);
            System.arraycopy(other.starts, 0, starts, 0, starts.length);
            System.arraycopy(other.met, 0, met, 0, met.length);
            System.arraycopy(other.stumbles, 0, stumbles, 0, stumbles.length);
            System.arraycopy(other.muds, 0, muds, 0, muds.length);
            System.arraycopy(other.cells, 0, cells, 0, cells.length);
            System.arraycopy(other.tunes, 0, tunes, 0, tunes.length);
            System.arraycopy(other.changes, 0, changes, 0, changes.length);
        }

        boolean stands() {
            return lines > 0;
        }

        boolean hasBothRounds() {
            return lengths[0] > 0 && lengths[1] > 0;
        }

        boolean hasPlace(int side, int i) {
            return isWithin(i, lengths[side]);
        }

        boolean hasStumble(int stumble) {
            return isWithin(stumble, stumbleCount);
        }

        int stepAt(int side, int i) {
            return steps[side * PLACES + i];
        }

        boolean mayMeet(int heard, int danced) {
            return (met[danced] >> heard & 1) != 0;
        }

        boolean isHole(int danced, int heard) {
            return danced != NONE && heard != NONE && !mayMeet(heard, danced);
        }

        int stumbleOf(int side, int beat) {
            for (int k = 0; k < stumbleCount; k++) {
                int at = k * STUMBLE_PARTS;
                if (stumbles[at] == side && stumbles[at + 1] == beat) {
                    return k;
                }
            }
            return NONE;
        }

        void addStumble(int side, int beat, int step, int lag) {
            if (stumbleCount < STUMBLES) {
                int at = stumbleCount * STUMBLE_PARTS;
                stumbles[at] = side;
                stumbles[at + 1] = beat;
                stumbles[at + 2] = step;
                stumbles[at + 3] = lag;
                stumbleCount++;
            }
        }

        void addCell(int every, int at) {
            if (cellCount < CELLS) {
                cells[cellCount * 2] = every;
                cells[cellCount * 2 + 1] = at;
                cellCount++;
            }
        }

        void addTune(int every, int at) {
            if (tuneCount < TUNES) {
                tunes[tuneCount * 2] = every;
                tunes[tuneCount * 2 + 1] = at;
                tuneCount++;
            }
        }

        int countMuds() {
            int muddyBeats = 0;
            for (int beat = 0; beat < BEATS; beat++) {
                muddyBeats += muds[beat];
            }
            return muddyBeats;
        }

        void keepChange(int kind, int where, int was) {
            if (changeCount < CHANGES) {
                int at = changeCount * CHANGE_PARTS;
                changes[at] = kind;
                changes[at + 1] = where;
                changes[at + 2] = was;
                changeCount++;
            }
        }

        void takeBack() {
            if (changeCount == 0) {
                return;
            }
            changeCount--;
            int at = changeCount * CHANGE_PARTS;
            int where = changes[at + 1];
            int was = changes[at + 2];
            switch (changes[at]) {
                case BY_STUMBLE:
                    // Later STUMBLES went before, so the last one is the one that came.
                    stumbleCount--;
                    break;
                case BY_MUD:
                    muds[where] = was;
                    break;
                default:
                    steps[where] = was;
                    break;
            }
        }
    }

    /** The bytes that came, and the TOKEN that is looked at. */
    private static final class Tape {
        private static final int END = 0;
        private static final int WORD = 1;
        private static final int NUMBER = 2;
        private static final int SEMICOLON = 3;
        private static final int BLANK = 4;
        private static final int BAD = 5;
        // Above every bound, so that many digits stay out of bounds.
        private static final int LARGE = 1000;

        final byte[] bytes = new byte[TAPE_BYTES];
        int length;
        int kind;
        int from;
        int upto;
        int value;

        void push(int four) {
            for (int bits = 24; bits >= 0 && length < TAPE_BYTES; bits -= 8) {
                bytes[length] = (byte) (four >> bits);
                length++;
            }
        }

        void rewind() {
            upto = 0;
            advance();
        }

        void advance() {
            from = upto;
            while (from < length && kindOf(bytes[from]) == BLANK) {
                from++;
            }
            upto = from;
            value = 0;
            kind = from < length ? kindOf(bytes[from]) : END;
            if (kind == SEMICOLON || kind == BAD) {
                upto = from + 1;
                return;
            }
            while (upto < length && kindOf(bytes[upto]) == kind) {
                // Of a word it means nothing, and is not asked for.
                value = Math.min(value * 10 + bytes[upto] - '0', LARGE);
                upto++;
            }
        }

        boolean isWord(String word) {
            if (kind != WORD || upto - from != word.length()) {
                return false;
            }
            for (int i = 0; i < word.length(); i++) {
                if (bytes[from + i] != word.charAt(i)) {
                    return false;
                }
            }
            return true;
        }

        private static int kindOf(int sign) {
            if (sign == 32 || sign == 10) {
                return BLANK;
            }
            if (sign >= 'a' && sign <= 'z') {
                return WORD;
            }
            if (sign >= '0' && sign <= '9') {
                return NUMBER;
            }
            return sign == ';' ? SEMICOLON : BAD;
        }
    }

    /** Reads the TAPE as LINES, up to the first FAULT. */
    private static final class Reader {
        private static final int MISPLACED = 1;
        private static final int OUT_OF_BOUNDS = 2;
        private static final int TOO_MANY = 3;

        final Tape tape = new Tape();
        private int numberPlace;
        int fault;
        int faultPlace = NONE;

        boolean read(Dance plan) {
            plan.clear();
            fault = 0;
            faultPlace = NONE;
            tape.rewind();
            for (int i = 0; i < TAPE_BYTES && fault == 0 && tape.kind != Tape.END; i++) {
                readLine(plan);
                takeSemicolon();
                plan.lines++;
            }
            return fault == 0;
        }

        private void readLine(Dance plan) {
            boolean isFirst = plan.lines == 0;
            if (isFirst != tape.isWord("dance")) {
                fail(MISPLACED, tape.from);
            } else if (isFirst) {
                readDance(plan);
            } else if (tape.isWord("round")) {
                readRound(plan);
            } else if (tape.isWord("answers")) {
                readAnswers(plan);
            } else if (tape.isWord("stumble")) {
                readStumble(plan);
            } else if (tape.isWord("mud")) {
                readMud(plan);
            } else if (tape.isWord("wood")) {
                readWood(plan);
            } else if (tape.isWord("tune")) {
                readTune(plan);
            } else {
                fail(MISPLACED, tape.from);
            }
        }

        private void readDance(Dance plan) {
            tape.advance();
            takeWord("gap");
            plan.gap = takeNumber(0, 20);
            takeWord("odds");
            plan.odds = takeNumber(0, HUNDRED);
            takeWord("rain");
            plan.rain = takeNumber(0, HUNDRED);
        }

        private void readRound(Dance plan) {
            tape.advance();
            int side = takeNumber(0, SIDES - 1);
            takeWord("of");
            int length = 0;
            for (int i = 0; i <= PLACES && (i == 0 || seesNumber()); i++) {
                int step = takeNumber(0, STEPS - 1);
                if (i == PLACES) {
                    fail(TOO_MANY, numberPlace);
                } else {
                    plan.steps[side * PLACES + i] = step;
                    length = i + 1;
                }
            }
            takeWord("begins");
            plan.starts[side] = takeNumber(0, length - 1);
            plan.lengths[side] = length;
        }

        private void readAnswers(Dance plan) {
            tape.advance();
            int step = takeNumber(0, STEPS - 1);
            int bits = 0;
            for (int i = 0; i < TAPE_BYTES && seesNumber(); i++) {
                bits |= 1 << takeNumber(0, STEPS - 1);
            }
            plan.met[step] = bits;
        }

        private void readStumble(Dance plan) {
            beginOneOf(plan.stumbleCount, STUMBLES);
            int side = takeNumber(0, SIDES - 1);
            takeWord("at");
            int beat = takeNumber(0, BEATS - 1);
            if (plan.stumbleOf(side, beat) != NONE) {
                fail(OUT_OF_BOUNDS, numberPlace);
            }
            takeWord("does");
            int step = takeNumber(0, STEPS - 1);
            takeWord("lag");
            int lag = takeNumber(0, LAGS - 1);
            plan.addStumble(side, beat, step, lag);
        }

        private void readMud(Dance plan) {
            tape.advance();
            int beat = takeNumber(0, BEATS - 1);
            if (plan.muds[beat] != 0) {
                fail(OUT_OF_BOUNDS, numberPlace);
            }
            plan.muds[beat] = 1;
        }

        private void readWood(Dance plan) {
            beginOneOf(plan.cellCount, CELLS);
            takeWord("every");
            int every = takeNumber(1, 9);
            takeWord("at");
            plan.addCell(every, takeNumber(0, every - 1));
        }

        private void readTune(Dance plan) {
            beginOneOf(plan.tuneCount, TUNES);
            int every = takeNumber(1, 30);
            takeWord("at");
            plan.addTune(every, takeNumber(0, every - 1));
        }

        /** Goes behind the word of a LINE of which there may be so many. */
        private void beginOneOf(int there, int most) {
            if (there >= most) {
                fail(TOO_MANY, tape.from);
            }
            tape.advance();
        }

        private boolean seesNumber() {
            return fault == 0 && tape.kind == Tape.NUMBER;
        }

        private void takeWord(String word) {
            if (!tape.isWord(word)) {
                fail(MISPLACED, tape.from);
            }
            tape.advance();
        }

        private void takeSemicolon() {
            if (tape.kind != Tape.SEMICOLON) {
                fail(MISPLACED, tape.from);
            }
            tape.advance();
        }

        /** A number within its bounds; behind a FAULT the least one, which no row is too short for. */
        private int takeNumber(int least, int most) {
            int number = tape.value;
            numberPlace = tape.from;
            if (tape.kind != Tape.NUMBER) {
                fail(MISPLACED, numberPlace);
            } else if (number < least || number > most) {
                fail(OUT_OF_BOUNDS, numberPlace);
            }
            tape.advance();
            return fault == 0 ? number : least;
        }

        // TOKENS are looked at in their order: the first FAULT told is the first by its place.
        private void fail(int what, int where) {
            if (fault == 0) {
                fault = what;
                faultPlace = where;
            }
        }
    }

    /** Where both SIDES are and what they dance in all BEATS. */
    private static final class Floor {
        private final int[] places = new int[SIDES * BEATS];
        private final int[] steps = new int[SIDES * BEATS];
        private final int[] stumbleIn = new int[BEATS];
        private int gap;
        int calmLength;
        int calmStart;

        void lay(Dance plan, int without) {
            gap = plan.gap;
            for (int side = 0; side < SIDES; side++) {
                findStumbles(plan, side, without);
                laySide(plan, side);
            }
        }

        private void findStumbles(Dance plan, int side, int without) {
            Arrays.fill(stumbleIn, NONE);
            for (int k = 0; k < plan.stumbleCount; k++) {
                int at = k * STUMBLE_PARTS;
                if (k != without && plan.stumbles[at] == side) {
                    stumbleIn[plan.stumbles[at + 1]] = at;
                }
            }
        }

        private void laySide(Dance plan, int side) {
            int length = plan.lengths[side];
            int place = plan.starts[side];
            for (int beat = 0; beat < BEATS; beat++) {
                int at = side * BEATS + beat;
                places[at] = length == 0 ? NONE : place;
                steps[at] = NONE;
                if (length > 0 && plan.muds[beat] == 0) {
                    int stumble = stumbleIn[beat];
                    boolean isPlain = stumble == NONE;
                    steps[at] = isPlain ? plan.stepAt(side, place) : plan.stumbles[stumble + 2];
                    int lag = isPlain ? 0 : plan.stumbles[stumble + 3];
                    place = wrap(place + 1 - lag, length);
                }
            }
        }

        int placeOf(int side, int beat) {
            return places[side * BEATS + beat];
        }

        int stepOf(int side, int beat) {
            return steps[side * BEATS + beat];
        }

        int heardBy(int side, int beat) {
            return beat < gap ? NONE : stepOf(1 - side, beat - gap);
        }

        boolean gapes(Dance plan, int side, int beat) {
            return plan.isHole(stepOf(side, beat), heardBy(side, beat));
        }

        int countHoles(Dance plan, int side, int from, int to) {
            int found = 0;
            for (int beat = from; beat <= to; beat++) {
                if (gapes(plan, side, beat)) {
                    found++;
                }
            }
            return found;
        }

        int countAllHoles(Dance plan) {
            return countHoles(plan, 0, 0, BEATS - 1) + countHoles(plan, 1, 0, BEATS - 1);
        }

        void findCalm(Dance plan, int from, int to) {
            calmLength = 0;
            calmStart = NONE;
            int start = from;
            for (int beat = from; beat <= to; beat++) {
                if (gapes(plan, 0, beat) || gapes(plan, 1, beat)) {
                    start = beat + 1;
                } else if (beat + 1 - start > calmLength) {
                    calmLength = beat + 1 - start;
                    calmStart = start;
                }
            }
        }
    }

    /** Both ROUNDS as they go without STUMBLES and MUD. */
    private static final class Rounds {
        private final int[] fits = new int[PLACES];

        static int periodOf(Dance plan) {
            return (int) commonMultiple(plan.lengths[0], plan.lengths[1]);
        }

        static int firstIn(Dance plan, int place, int other, int beat) {
            int end = beat + periodOf(plan);
            for (int b = beat; b < end; b++) {
                if (placeIn(plan, 0, b) == place && placeIn(plan, 1, b) == other) {
                    return b;
                }
            }
            return NONE;
        }

        static int holesShifted(Dance plan, int later) {
            int end = plan.gap + periodOf(plan);
            int found = 0;
            for (int beat = plan.gap; beat < end; beat++) {
                int ago = beat - plan.gap;
                if (plan.isHole(stepIn(plan, 0, beat), stepIn(plan, 1, ago + later))) {
                    found++;
                }
                if (plan.isHole(stepIn(plan, 1, beat + later), stepIn(plan, 0, ago))) {
                    found++;
                }
            }
            return found;
        }

        static int leastShift(Dance plan) {
            int best = 0;
            int fewest = holesShifted(plan, 0);
            for (int later = 1; later < plan.lengths[1]; later++) {
                int found = holesShifted(plan, later);
                if (found < fewest) {
                    fewest = found;
                    best = later;
                }
            }
            return best;
        }

        /** STEPS, as bits, that each PLACE of a SIDE's ROUND may have. */
        void findFits(Dance plan, int side) {
            Arrays.fill(fits, ALL_STEPS);
            int end = plan.gap + periodOf(plan);
            // A PERIOD from gap on has every pair that ever meets, and the BEATS go beyond it.
            for (int beat = plan.gap; beat < end; beat++) {
                int heard = stepIn(plan, 1 - side, beat - plan.gap);
                int hearing = stepIn(plan, 1 - side, beat + plan.gap);
                fits[placeIn(plan, side, beat)] &= metBy(plan, heard) & plan.met[hearing];
            }
        }

        int firstStuck(Dance plan, int side) {
            for (int place = 0; place < plan.lengths[side]; place++) {
                if (fits[place] == 0) {
                    return place;
                }
            }
            return NONE;
        }

        int fitting(Dance plan, int side, int place) {
            int step = plan.stepAt(side, place);
            boolean mayStay = (fits[place] >> step & 1) != 0;
            return mayStay ? step : Integer.numberOfTrailingZeros(fits[place]);
        }

        int countChanged(Dance plan, int side) {
            int changed = 0;
            for (int place = 0; place < plan.lengths[side]; place++) {
                if (fitting(plan, side, place) != plan.stepAt(side, place)) {
                    changed++;
                }
            }
            return changed;
        }

        private static int metBy(Dance plan, int heard) {
            int bits = 0;
            for (int step = 0; step < STEPS; step++) {
                if (plan.mayMeet(heard, step)) {
                    bits |= 1 << step;
                }
            }
            return bits;
        }

        private static int placeIn(Dance plan, int side, int beat) {
            return wrap(plan.starts[side] + beat, plan.lengths[side]);
        }

        private static int stepIn(Dance plan, int side, int beat) {
            return plan.stepAt(side, placeIn(plan, side, beat));
        }
    }

    /**
     * STUMBLES of one SIDE, one alone, that fit what was heard of it. Ahead of its BEAT the SIDE
     * dances as without, behind it each BEAT is its lag further back: so for each lag the last
     * BEAT that is not so, and the first one not as without, tell which BEATS fit.
     */
    private static final class Guess {
        private static final int GUESSED_BEATS = 60;
        private static final int LISTENED_BEATS = 80;

        private int gap;
        private int length;
        private final int[] round = new int[PLACES];
        private boolean impossible;
        private int firstUnlike;
        private final int[] lastUnlike = new int[LAGS];
        private final int[] places = new int[BEATS];
        private final int[] stepsIn = new int[GUESSED_BEATS];
        private final int[] passed = new int[LAGS];
        private final int[] classes = new int[STEPS];
        int bestBeat;
        int bestLeft;

        void begin(Dance plan, int side) {
            gap = plan.gap;
            length = plan.lengths[side];
            System.arraycopy(plan.steps, side * PLACES, round, 0, PLACES);
            impossible = false;
            firstUnlike = BEATS;
            Arrays.fill(lastUnlike, NONE);
            Arrays.fill(stepsIn, ALL_STEPS);
            int place = plan.starts[side];
            for (int beat = 0; beat < BEATS; beat++) {
                boolean dances = length > 0 && plan.muds[beat] == 0;
                places[beat] = dances ? place : NONE;
                place = dances ? wrap(place + 1, length) : place;
            }
        }

        void hear(int beat, int step) {
            int ago = beat - gap;
            if (ago < 0 || places[ago] == NONE) {
                impossible = impossible || step != NONE;
                return;
            }
            if (stepBack(ago, 0) != step) {
                firstUnlike = Math.min(firstUnlike, ago);
            }
            for (int lag = 0; lag < LAGS; lag++) {
                if (stepBack(ago, lag) != step) {
                    lastUnlike[lag] = Math.max(lastUnlike[lag], ago);
                }
            }
            if (ago < GUESSED_BEATS) {
                stepsIn[ago] &= step == NONE ? 0 : 1 << step;
            }
        }

        int countFits() {
            int found = fitsWithout() ? 1 : 0;
            for (int beat = 0; beat < GUESSED_BEATS; beat++) {
                for (int lag = 0; lag < LAGS; lag++) {
                    found += Integer.bitCount(stepsThatFit(beat, lag));
                }
            }
            return found;
        }

        int leastFit() {
            if (fitsWithout()) {
                return 0;
            }
            for (int beat = 0; beat < GUESSED_BEATS; beat++) {
                for (int step = 0; step < STEPS; step++) {
                    for (int lag = 0; lag < LAGS; lag++) {
                        if ((stepsThatFit(beat, lag) >> step & 1) != 0) {
                            return 1 + 60 * beat + 10 * step + lag;
                        }
                    }
                }
            }
            return NONE;
        }

        long beatsOfFits() {
            long bits = 0;
            for (int beat = 0; beat < GUESSED_BEATS; beat++) {
                for (int lag = 0; lag < LAGS; lag++) {
                    if (stepsThatFit(beat, lag) != 0) {
                        bits |= 1L << beat;
                    }
                }
            }
            return bits;
        }

        void findBeat() {
            int all = countFits();
            bestBeat = NONE;
            bestLeft = all;
            Arrays.fill(passed, 0);
            for (int beat = gap; beat < LISTENED_BEATS; beat++) {
                int ago = beat - gap;
                // In such a BEAT none is heard, whichever it is: all are left.
                if (places[ago] != NONE) {
                    int left = mostAlike(ago, all);
                    if (left < bestLeft) {
                        bestLeft = left;
                        bestBeat = beat;
                    }
                    pass(ago);
                }
            }
        }

        /** The most of these by which one and the same STEP is danced in a BEAT. */
        private int mostAlike(int ago, int all) {
            Arrays.fill(classes, 0);
            int asWithout = all;
            for (int lag = 0; lag < LAGS; lag++) {
                classes[stepBack(ago, lag)] += passed[lag];
                asWithout -= passed[lag];
                int bits = ago < GUESSED_BEATS ? stepsThatFit(ago, lag) : 0;
                for (int step = 0; step < STEPS; step++) {
                    classes[step] += bits >> step & 1;
                }
                asWithout -= Integer.bitCount(bits);
            }
            classes[stepBack(ago, 0)] += asWithout;
            int largest = 0;
            for (int step = 0; step < STEPS; step++) {
                largest = Math.max(largest, classes[step]);
            }
            return largest;
        }

        private void pass(int beat) {
            for (int lag = 0; lag < LAGS && beat < GUESSED_BEATS; lag++) {
                passed[lag] += Integer.bitCount(stepsThatFit(beat, lag));
            }
        }

        private boolean fitsWithout() {
            return !impossible && firstUnlike == BEATS;
        }

        /** STEPS, as bits, by which a STUMBLE of a BEAT and a lag fits. */
        private int stepsThatFit(int beat, int lag) {
            if (places[beat] == NONE) {
                return fitsWithout() ? ALL_STEPS : 0;
            }
            boolean fits = !impossible && beat <= firstUnlike && beat >= lastUnlike[lag];
            return fits ? stepsIn[beat] : 0;
        }

        private int stepBack(int beat, int lag) {
            return round[wrap(places[beat] - lag, length)];
        }
    }

    /** Ways through the wood, each cell as early as can be: who is early may stay. */
    private static final class Wood {
        private final int[] arrivals = new int[SIDES * CELLS];
        int meetingBeat;
        int meetingCell;

        /** The first BEAT on the other SIDE for one who leaves a SIDE in a BEAT. */
        int through(Dance plan, int side, int beat) {
            int there = beat;
            for (int i = 0; i < plan.cellCount; i++) {
                int cell = side == 0 ? i : plan.cellCount - 1 - i;
                int every = plan.cells[cell * 2];
                int at = plan.cells[cell * 2 + 1];
                there += wrap(at - there, every) + 1;
                arrivals[side * CELLS + cell] = there;
            }
            return there + 1;
        }

        void findMeeting(Dance plan, int beat, int other) {
            through(plan, 0, beat);
            through(plan, 1, other);
            meetingBeat = NONE;
            meetingCell = NONE;
            for (int cell = 0; cell < plan.cellCount; cell++) {
                int both = Math.max(arrivals[cell], arrivals[CELLS + cell]);
                if (meetingCell == NONE || both < meetingBeat) {
                    meetingBeat = both;
                    meetingCell = cell;
                }
            }
        }

        int slowest(Dance plan) {
            int longestWay = 0;
            for (int beat = 0; beat < BEATS; beat++) {
                longestWay = Math.max(longestWay, through(plan, 0, beat) - beat);
            }
            return longestWay;
        }
    }

    /** TUNES of a set, as one that begins when all of them do. */
    private static final class Tunes {
        long every;
        private long at;

        void join(Dance plan, int set) {
            every = 1;
            at = 0;
            for (int k = 0; k < plan.tuneCount; k++) {
                if ((set >> k & 1) != 0) {
                    joinOne(plan.tunes[k * 2], plan.tunes[k * 2 + 1]);
                }
            }
        }

        private void joinOne(int tuneEvery, int tuneAt) {
            long joined = NONE;
            for (int i = 0; i < tuneEvery && at != NONE && joined == NONE; i++) {
                long beat = at + i * every;
                if (beat % tuneEvery == tuneAt) {
                    joined = beat;
                }
            }
            at = joined;
            every = commonMultiple(every, tuneEvery);
        }

        long firstFrom(int beat) {
            if (at == NONE || every <= 0) {
                return NONE;
            }
            return beat + Math.floorMod(at - beat, every);
        }

        /** The least of the largest sets that ever begin together. */
        int largestSet(Dance plan) {
            int largest = 0;
            for (int set = 1; set < 1 << plan.tuneCount; set++) {
                if (Integer.bitCount(set) > Integer.bitCount(largest)) {
                    join(plan, set);
                    if (at != NONE) {
                        largest = set;
                    }
                }
            }
            return largest;
        }
    }

    /** The game; how often each STEP was danced (0 .. 2) is one number of base three. */
    private static final class Game {
        private static final int STATES = 729;
        private static final int[] POWERS = {1, 3, 9, 27, 81, 243};

        /** For each state: STEPS, as bits, that win if they may be danced next. */
        private final int[] winning = new int[STATES];

        int winningStep(Dance plan, int step) {
            // A dance makes the number larger, so those behind it are known first.
            for (int state = STATES - 1; state >= 0; state--) {
                winning[state] = findWinning(plan, state);
            }
            int bits = winning[POWERS[step]] & plan.met[step];
            return bits == 0 ? NONE : Integer.numberOfTrailingZeros(bits);
        }

        private int findWinning(Dance plan, int state) {
            int bits = 0;
            for (int step = 0; step < STEPS; step++) {
                boolean mayBeDanced = state / POWERS[step] % 3 < 2;
                if (mayBeDanced && (winning[state + POWERS[step]] & plan.met[step]) == 0) {
                    bits |= 1 << step;
                }
            }
            return bits;
        }
    }

    /** A NIGHT drawn from a seed. */
    private static final class Night {
        private static final long FACTOR = 1103515245L;
        private static final long ADDED = 12345L;
        private static final long MODULUS = 2147483648L;
        private static final long CUT = 65536L;

        private final int[] danced = new int[SIDES * NIGHT_BEATS];
        private final int[] places = new int[SIDES];
        private long state;
        int holeCount;
        int firstHole;
        int mudCount;
        int slipCount;

        void play(Dance plan, int seed, int beats) {
            state = seed;
            holeCount = 0;
            firstHole = NONE;
            mudCount = 0;
            slipCount = 0;
            places[0] = plan.starts[0];
            places[1] = plan.starts[1];
            for (int beat = 0; beat < beats && beat < NIGHT_BEATS; beat++) {
                danceBeat(plan, beat);
                lookForHole(plan, 0, beat);
                lookForHole(plan, 1, beat);
            }
        }

        private void danceBeat(Dance plan, int beat) {
            boolean rains = draw() < plan.rain;
            mudCount += rains ? 1 : 0;
            for (int side = 0; side < SIDES; side++) {
                boolean dances = !rains && plan.lengths[side] > 0;
                danced[side * NIGHT_BEATS + beat] = dances ? danceStep(plan, side) : NONE;
            }
        }

        private int danceStep(Dance plan, int side) {
            int step = plan.stepAt(side, places[side]);
            places[side] = wrap(places[side] + 1, plan.lengths[side]);
            if (draw() < plan.odds) {
                slipCount++;
                step = (step + 1) % STEPS;
            }
            return step;
        }

        private void lookForHole(Dance plan, int side, int beat) {
            int ago = beat - plan.gap;
            if (ago < 0) {
                return;
            }
            int heard = danced[(1 - side) * NIGHT_BEATS + ago];
            if (plan.isHole(danced[side * NIGHT_BEATS + beat], heard)) {
                holeCount++;
                firstHole = firstHole == NONE ? beat : firstHole;
            }
        }

        private int draw() {
            state = (FACTOR * state + ADDED) % MODULUS;
            return (int) (state / CUT % HUNDRED);
        }
    }

    /** Rows of numbers, each cut to its WIDTH. */
    private static final class Slots {
        static final int WIDTHS = 4;
        static final int LONGEST = 60;
        private static final int SLOTS = 4;

        final int[] widths = new int[SLOTS];
        final int[] sizes = {NONE, NONE, NONE, NONE};
        private final long[] numbers = new long[SLOTS * LONGEST];

        static boolean isSlot(int slot) {
            return isWithin(slot, SLOTS);
        }

        boolean has(int slot) {
            return sizes[slot] != NONE;
        }

        int countRows() {
            int rows = 0;
            for (int slot = 0; slot < SLOTS; slot++) {
                rows += has(slot) ? 1 : 0;
            }
            return rows;
        }

        void make(int slot, int width, int size) {
            widths[slot] = width;
            sizes[slot] = size;
            for (int i = 0; i < LONGEST; i++) {
                numbers[slot * LONGEST + i] = 0;
            }
        }

        long at(int slot, int i) {
            return numbers[slot * LONGEST + i];
        }

        void put(int slot, int i, long value) {
            numbers[slot * LONGEST + i] = cut(value, widths[slot]);
        }

        boolean holds(int slot, int from, int many) {
            return from >= 0 && many >= 0 && many <= sizes[slot] && from <= sizes[slot] - many;
        }

        void move(int slot, int from, int target, int start, int many) {
            System.arraycopy(numbers, slot * LONGEST + from, numbers, target * LONGEST + start, many);
        }

        /** 0, if a row holds BEATS and what was heard in them. */
        int refusalOfHeard(int slot) {
            if (!isSlot(slot)) {
                return NO_SUCH;
            }
            if (!has(slot)) {
                return NOTHING;
            }
            boolean fits = sizes[slot] % 2 == 0;
            for (int i = 0; i < sizes[slot]; i++) {
                boolean isTold = i % 2 == 0 ? isBetween(at(slot, i), 0, BEATS - 1) : isTold(at(slot, i));
                fits = fits && isTold;
            }
            return fits ? 0 : NO_SUCH;
        }

        /** 0, if a row holds STEPS, or NONE where none was heard. */
        int refusalOfSteps(int slot) {
            if (!isSlot(slot)) {
                return NO_SUCH;
            }
            if (!has(slot)) {
                return NOTHING;
            }
            for (int i = 0; i < sizes[slot]; i++) {
                if (!isTold(at(slot, i))) {
                    return NO_SUCH;
                }
            }
            return 0;
        }

        int shortest(int slot) {
            for (int length = 1; length <= PLACES; length++) {
                if (goesRound(slot, length)) {
                    return length;
                }
            }
            return NONE;
        }

        int told(int slot, int length, int place) {
            if (length < 1) {
                return NONE;
            }
            for (int i = place; i < sizes[slot]; i += length) {
                if (at(slot, i) != NONE) {
                    return (int) at(slot, i);
                }
            }
            return NONE;
        }

        int countUntold(int slot, int length) {
            int untold = 0;
            for (int place = 0; place < length; place++) {
                untold += told(slot, length, place) == NONE ? 1 : 0;
            }
            return untold;
        }

        private boolean goesRound(int slot, int length) {
            for (int i = 0; i < sizes[slot]; i++) {
                long step = at(slot, i);
                if (step != NONE && step != told(slot, length, wrap(i, length))) {
                    return false;
                }
            }
            return true;
        }

        private static boolean isTold(long number) {
            return isBetween(number, NONE, STEPS - 1);
        }

        private static boolean isBetween(long number, long least, long most) {
            return number >= least && number <= most;
        }

        private static long cut(long value, int width) {
            switch (width) {
                case 0:
                    return (byte) value;
                case 1:
                    return (short) value;
                case 2:
                    return (int) value;
                default:
                    return value;
            }
        }
    }
}
