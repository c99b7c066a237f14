import java.lang.reflect.InvocationTargetException;
import java.lang.reflect.Method;
import java.util.ArrayList;
import java.util.Arrays;
import java.util.HashMap;
import java.util.List;
import java.util.Map;
import java.util.Random;
import java.util.TreeMap;

/** Runs of calls by chance (always the same ones): OverHill and its Mirror answer alike. */
public final class MirrorTest {
    // For each call: the least and the most of each number that is usual.
    private static final Map<String, int[]> USUAL = new HashMap<>();
    private static final String[] SLOW = {"heard", "first", "when", "listen", "leaves"};
    private static int wrong = 0;
    private static final Map<String, Map<Long, Integer>> SEEN = new TreeMap<>();

    static {
        usual("end", 0, 40);
        usual("dance");
        usual("fault", 0, 1);
        usual("step", 0, 1, 0, 11);
        usual("answers", 0, 5);
        usual("stumbled", 0, 7, 0, 3);
        usual("muddy", 0, 50);
        usual("place", 0, 1, 0, 199);
        usual("danced", 0, 1, 0, 60);
        usual("hears", 0, 1, 0, 60);
        usual("late", 0, 1, 0, 199);
        usual("hole", 0, 1, 0, 199);
        usual("next", 0, 1, 0, 199);
        usual("holes", 0, 1, 0, 99, 70, 199);
        usual("run", 0, 99, 70, 199);
        usual("begins", 0, 99, 70, 199);
        usual("undoes", 0, 7);
        usual("causes", 0, 1, 0, 199);
        usual("period");
        usual("meets", 0, 5, 0, 5, 0, 199);
        usual("shifted", 0, 11);
        usual("shift");
        usual("least");
        usual("mend", 0, 1);
        usual("mended", 0, 1, 0, 11);
        usual("stuck", 0, 1);
        usual("heard", 0, 3, 0, 1);
        usual("first", 0, 3, 0, 1);
        usual("when", 0, 3, 0, 1);
        usual("listen", 0, 3, 0, 1);
        usual("leaves", 0, 3, 0, 1);
        usual("crosses", 0, 199);
        usual("returns", 0, 199);
        usual("meet", 0, 199, 0, 199);
        usual("cell", 0, 60, 0, 60);
        usual("longest");
        usual("half", 0, 3);
        usual("fills", 0, 3, 0, 5);
        usual("open", 0, 3);
        usual("together", 0, 7, 0, 199);
        usual("again", 0, 31);
        usual("most");
        usual("chorus");
        usual("treaties");
        usual("leads", 0, 1);
        usual("game", 0, 5);
        usual("plays", 0, 5);
        usual("dry", 1, 9, 0, 1);
        usual("wet", 1, 9, 0, 9, 0, 1);
        usual("drawn", 0, 2000000000, 1, 100, 0, 3);
        usual("nights", 0, 2000000000, 1, 20, 1, 40);
        usual("stumble", 0, 1, 0, 60, 0, 5, 0, 9);
        usual("mud", 0, 60, 0, 1);
        usual("teach", 0, 1, 0, 11, 0, 5);
        usual("undo");
        usual("count", 0, 12);
        usual("image", 0, 2);
        usual("back", 0, 2);
        usual("row", 0, 3, 0, 3, 0, 20);
        usual("write", 0, 3, 0, 12, -1, 5);
        usual("paste", 0, 3, 0, 5, 0, 3, 0, 5, 0, 6);
    }

    private static void usual(String name, int... bounds) {
        USUAL.put(name, bounds);
    }

    private final Random random;
    private final OverHill x = new OverHill();
    private final Mirror mirror = new Mirror();
    private final List<String> told = new ArrayList<>();
    private int calls = 0;

    private MirrorTest(long seed) {
        random = new Random(seed);
    }

    private static Method find(Class<?> c, String name) {
        for (Method m : c.getDeclaredMethods()) {
            if (m.getName().equals(name)) {
                return m;
            }
        }
        throw new IllegalStateException(name);
    }

    private static final Map<String, Method[]> METHODS = new HashMap<>();

    private long call(String name, long... numbers) {
        Method[] both = METHODS.computeIfAbsent(name, n -> {
            Method theirs = null;
            for (Method m : Mirror.class.getDeclaredMethods()) {
                boolean isPrivate = java.lang.reflect.Modifier.isPrivate(m.getModifiers());
                if (m.getName().equals(n) && !isPrivate) {
                    theirs = m;
                }
            }
            return new Method[] {find(OverHill.class, n), theirs};
        });
        Class<?>[] types = both[0].getParameterTypes();
        Object[] given = new Object[types.length];
        for (int i = 0; i < types.length; i++) {
            if (types[i] == long.class) {
                given[i] = numbers[i];
            } else {
                given[i] = (int) numbers[i];
            }
        }
        calls++;
        String row = name + Arrays.toString(given);
        try {
            long due = ((Number) both[1].invoke(mirror, given)).longValue();
            long got = ((Number) both[0].invoke(x, given)).longValue();
            told.add(row + " = " + got);
            SEEN.computeIfAbsent(name, n -> new TreeMap<>()).merge(got, 1, Integer::sum);
            if (got != due) {
                complain(row + " answered " + got + ", due is " + due);
            }
            return due;
        } catch (InvocationTargetException e) {
            complain(row + " threw " + e.getCause());
            return 0;
        } catch (IllegalAccessException e) {
            throw new IllegalStateException(e);
        }
    }

    private void complain(String what) {
        wrong++;
        if (wrong <= 5) {
            System.out.println(what + "\n  behind " + told);
        }
    }

    private long number(int least, int most) {
        int wild = random.nextInt(40);
        if (wild == 0) {
            return least - 1L - random.nextInt(2);
        }
        if (wild == 1) {
            return most + 1L + random.nextInt(2);
        }
        if (wild == 2) {
            long[] far = {Integer.MIN_VALUE, Integer.MAX_VALUE, 1000000, -1000000};
            return far[random.nextInt(far.length)];
        }
        return least + (long) (random.nextDouble() * ((double) most - least + 1));
    }

    private void anyCall(String name) {
        int[] bounds = USUAL.get(name);
        long[] numbers = new long[bounds.length / 2];
        for (int i = 0; i < numbers.length; i++) {
            numbers[i] = number(bounds[2 * i], bounds[2 * i + 1]);
            if (name.equals("write") && i == 2 && random.nextInt(8) == 0) {
                numbers[i] = random.nextLong();
            }
        }
        call(name, numbers);
    }

    private void text(String text) {
        call("end", 0);
        for (int[] n : Texts.numbers(text)) {
            call("feed", n[0], n[1], n[2], n[3], n[4]);
        }
        if (text.length() <= 1200) {
            call("end", text.length());
        }
        call("dance");
        call("fault", 0);
        call("fault", 1);
    }

    /** A row of BEATS and what is heard in them, most of it true. */
    private void hearRow(int slot, int side) {
        int pairs = random.nextInt(random.nextInt(3) == 0 ? 30 : 8);
        call("row", slot, random.nextInt(3) + 1, pairs * 2L);
        for (int i = 0; i < pairs; i++) {
            int beat = random.nextInt(random.nextInt(4) == 0 ? 200 : 80);
            long step = random.nextInt(25) == 0 ? random.nextInt(7) - 1 : Math.max(-1, mirror.hears(side, beat));
            call("write", slot, i * 2L, beat);
            call("write", slot, i * 2L + 1, step);
        }
        for (String name : SLOW) {
            call(name, slot, side);
        }
    }

    /** A row of a ROUND, with some not heard. */
    private void halfRow(int slot) {
        int n = random.nextInt(61);
        int size = random.nextInt(14) + 1;
        int[] round = random.ints(size, 0, 3).toArray();
        call("row", slot, random.nextInt(4), n);
        for (int i = 0; i < n; i++) {
            call("write", slot, i, random.nextInt(3) == 0 ? -1 : round[i % size]);
        }
        call("half", slot);
        call("open", slot);
        for (int i = -1; i < 13; i++) {
            call("fills", slot, i);
        }
    }

    private void play() {
        List<String> names = new ArrayList<>(USUAL.keySet());
        names.sort(null);
        names.removeAll(Arrays.asList(SLOW));
        boolean manyChanges = random.nextInt(5) == 0;
        String[] changing = {"stumble", "mud", "teach", "teach", "undo", "stumbled", "danced", "place", "late", "count"};
        if (random.nextInt(10) > 0) {
            text(Texts.lines(random, 14));
        }
        while (calls < 400) {
            int what = random.nextInt(200);
            if (what < 3) {
                String text = Texts.lines(random, random.nextInt(3) == 0 ? 60 : 14);
                text(random.nextInt(3) == 0 ? Texts.spoiled(random, text) : text);
            } else if (manyChanges && what > 80) {
                anyCall(changing[random.nextInt(changing.length)]);
            } else if (what == 3) {
                hearRow(random.nextInt(4), random.nextInt(2));
            } else if (what == 4) {
                halfRow(random.nextInt(4));
            } else if (what == 5 && random.nextInt(10) == 0) {
                anyCall(SLOW[random.nextInt(SLOW.length)]);
            } else {
                String name = names.get(random.nextInt(names.size()));
                int rare = name.equals("dance") ? 40 : name.equals("back") ? 3 : 1;
                if (random.nextInt(rare) == 0) {
                    anyCall(name);
                }
            }
        }
        for (int side = 0; side < 2; side++) {
            if (mirror.mend(side) != -2 && mirror.count(3 + side) <= 3) {
                if (mirror.mendByAll(side) != x.mend(side)) {
                    complain("mend(" + side + ") is not the fewest of all");
                }
            }
        }
    }

    public static void main(String[] args) {
        int runs = args.length > 0 ? Integer.parseInt(args[0]) : 300;
        for (int seed = 0; seed < runs; seed++) {
            new MirrorTest(seed).play();
        }
        if (args.length > 1) {
            SEEN.forEach((name, answers) -> System.out.println(name + " " + answers));
        }
        System.out.println(wrong == 0 ? runs + " runs as the mirror has them" : wrong + " answers unlike the mirror's");
        if (wrong != 0) {
            System.exit(1);
        }
    }
}
