import java.lang.reflect.InvocationTargetException;
import java.lang.reflect.Method;
import java.lang.reflect.Modifier;
import java.util.ArrayList;
import java.util.Arrays;
import java.util.Comparator;
import java.util.List;
import java.util.Random;

/**
 * No call may ever throw, for any arguments in any state (LANGUAGE.md, rule 7): every call in many
 * states with numbers at and beyond all bounds that there are, each answered as the Mirror has it.
 */
public final class ExtremesTest {
    private static final long[] NUMBERS = {Integer.MIN_VALUE, Integer.MIN_VALUE + 1, -1000000, -1000, -200, -61, -13, -2, -1, 0, 1, 2, 3, 4, 5, 6, 7, 8, 9,
        10, 11, 12, 13, 19, 20, 21, 30, 31, 32, 39, 40, 41, 58, 59, 60, 61, 63, 64, 79, 80, 99, 100, 101, 127, 128, 198, 199, 200, 201, 255, 256, 511, 512,
        1199, 1200, 1201, 65535, 65536, 1999999981, 1999999999, 2000000000, 2000000001, Integer.MAX_VALUE - 1, Integer.MAX_VALUE};
    private static final long[] LONGS = {Long.MIN_VALUE, Long.MAX_VALUE, 1L << 32, (1L << 32) - 1, (1L << 40) + 3, -(1L << 32), 128, 255, 256, 65535, 65536};

    private static final String FULL = "dance gap 20 odds 100 rain 99;round 0 of 0 1 2 3 4 5 5 4 3 2 1 0 begins 11;round 1 of 5 4 3 2 1 0 0 1 2 3 4 begins 10;"
        + "answers 0;answers 1 0 1;answers 2 2 3;answers 3 4 5 0;answers 4 1;answers 5 5;"
        + "stumble 0 at 0 does 5 lag 9;stumble 1 at 199 does 5 lag 9;stumble 1 at 0 does 0 lag 0;stumble 0 at 199 does 3 lag 4;"
        + "stumble 0 at 59 does 1 lag 1;stumble 1 at 59 does 2 lag 8;stumble 1 at 60 does 2 lag 2;stumble 0 at 7 does 4 lag 5;"
        + "mud 0;mud 199;mud 59;mud 7;mud 8;"
        + "wood every 9 at 8;wood every 9 at 0;wood every 8 at 7;wood every 7 at 6;wood every 5 at 0;wood every 9 at 8;wood every 1 at 0;wood every 9 at 7;"
        + "wood every 9 at 6;wood every 9 at 5;wood every 9 at 4;wood every 9 at 3;"
        + "tune 29 at 28;tune 28 at 27;tune 27 at 26;tune 25 at 24;tune 23 at 22;";
    private static final String[] TEXTS = {"", "dance gap 0 odds 0 rain 0;", "dance gap 0 odds 0 rain 100;round 0 of 3 begins 0;",
        "dance gap 20 odds 0 rain 0;round 1 of 3 begins 0;stumble 0 at 0 does 5 lag 9;",
        "dance gap 1 odds 50 rain 10;round 0 of 0 1 2 begins 2;round 1 of 2 1 begins 1;answers 2;answers 1 0;mud 3;wood every 2 at 1;tune 2 at 1;", FULL};

    private static int wrong = 0;
    private static int asked = 0;

    private final OverHill x = new OverHill();
    private final Mirror mirror = new Mirror();

    /** A state: a text told, some rows, and now and then 40 changes, IMAGES, and a TAPE with a FAULT. */
    private ExtremesTest(String text, boolean more) {
        tell(text);
        if (!more) {
            return;
        }
        ask("image", 0);
        for (int i = 0; i < 40; i++) {
            ask("mud", i % 3, i % 2);
        }
        ask("image", 2);
        long[][] rows = {{1, 60}, {0, 0}, {3, 4}};
        for (int slot = 0; slot < 3; slot++) {
            ask("row", slot, rows[slot][0], rows[slot][1]);
        }
        ask("write", 0, 59, -1);
        ask("write", 2, 0, 199);
        ask("write", 2, 1, 5);
        tellBytes("dance gap 3 x");
        ask("dance");
    }

    private void tellBytes(String text) {
        ask("end", 0);
        for (int[] n : Texts.numbers(text)) {
            ask("feed", n[0], n[1], n[2], n[3], n[4]);
        }
        ask("end", text.length());
    }

    private void tell(String text) {
        tellBytes(text);
        ask("dance");
        if (x.fault(0) != 0) {
            throw new IllegalStateException("fault at " + x.fault(1) + " in " + text);
        }
    }

    private static Method find(Class<?> c, String name) {
        for (Method m : c.getDeclaredMethods()) {
            if (m.getName().equals(name) && !Modifier.isPrivate(m.getModifiers())) {
                return m;
            }
        }
        throw new IllegalStateException(name);
    }

    private void ask(String name, long... numbers) {
        Method method = find(OverHill.class, name);
        Class<?>[] types = method.getParameterTypes();
        Object[] given = new Object[types.length];
        for (int i = 0; i < types.length; i++) {
            if (types[i] == long.class) {
                given[i] = numbers[i];
            } else {
                given[i] = (int) numbers[i];
            }
        }
        asked++;
        String call = name + Arrays.toString(given);
        try {
            long got = ((Number) method.invoke(x, given)).longValue();
            long due = ((Number) find(Mirror.class, name).invoke(mirror, given)).longValue();
            if (got != due) {
                wrong++;
                System.out.println(call + " answered " + got + ", due is " + due);
            }
        } catch (InvocationTargetException e) {
            wrong++;
            System.out.println(call + " threw " + e.getCause());
        } catch (IllegalAccessException e) {
            throw new IllegalStateException(e);
        }
    }

    /** All numbers for one argument, the others usual ones; or some of all together. */
    private static List<long[]> arguments(Method m, Random random) {
        List<long[]> all = new ArrayList<>();
        Class<?>[] types = m.getParameterTypes();
        if (types.length == 0) {
            all.add(new long[0]);
            return all;
        }
        for (int i = 0; i < types.length; i++) {
            for (long number : types[i] == long.class ? LONGS : NUMBERS) {
                long[] a = new long[types.length];
                for (int k = 0; k < a.length; k++) {
                    a[k] = random.nextInt(2);
                }
                a[i] = number;
                all.add(a);
            }
        }
        for (int n = 0; n < 60; n++) {
            long[] a = new long[types.length];
            for (int k = 0; k < a.length; k++) {
                a[k] = NUMBERS[random.nextInt(NUMBERS.length)];
            }
            all.add(a);
        }
        return all;
    }

    public static void main(String[] args) {
        Method[] methods = OverHill.class.getDeclaredMethods();
        Arrays.sort(methods, Comparator.comparing(Method::getName));
        Random random = new Random(63);
        for (Method m : methods) {
            if (!Modifier.isPublic(m.getModifiers())) {
                continue;
            }
            for (String text : TEXTS) {
                for (int more = 0; more < 2; more++) {
                    List<long[]> all = arguments(m, random);
                    // an object is used for at most 512 calls
                    for (int from = 0; from < all.size(); from += 300) {
                        ExtremesTest state = new ExtremesTest(text, more == 1);
                        for (long[] a : all.subList(from, Math.min(all.size(), from + 300))) {
                            state.ask(m.getName(), a);
                        }
                    }
                }
            }
        }
        System.out.println(wrong == 0 ? asked + " calls are answered as the mirror has them" : wrong + " calls are not answered so");
        if (wrong != 0) {
            System.exit(1);
        }
    }
}
