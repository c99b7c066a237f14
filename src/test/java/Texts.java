import java.nio.ByteBuffer;
import java.nio.charset.StandardCharsets;
import java.util.Arrays;
import java.util.Random;

/** Texts of DANCES for the tests, and how they come onto a TAPE. */
final class Texts {
    private Texts() {
    }

    /** The five numbers of each twenty bytes, the last ones filled with zeros. */
    static int[][] numbers(String text) {
        byte[] bytes = text.getBytes(StandardCharsets.ISO_8859_1);
        int parts = (bytes.length + 19) / 20;
        ByteBuffer all = ByteBuffer.wrap(Arrays.copyOf(bytes, parts * 20));
        int[][] out = new int[parts][5];
        for (int[] part : out) {
            for (int i = 0; i < 5; i++) {
                part[i] = all.getInt();
            }
        }
        return out;
    }

    /** Puts a text in place of the TAPE. */
    static void put(OverHill x, String text) {
        x.end(0);
        for (int[] n : numbers(text)) {
            x.feed(n[0], n[1], n[2], n[3], n[4]);
        }
        x.end(text.length());
    }

    static int tell(OverHill x, String text) {
        put(x, text);
        return x.dance();
    }

    static OverHill told(String text) {
        OverHill x = new OverHill();
        int lines = tell(x, text);
        if (lines < 0) {
            throw new IllegalStateException("fault " + x.fault(0) + " at " + x.fault(1) + " in " + text);
        }
        return x;
    }

    // ---------------------------------------------------------------- by chance

    private static String gap(Random r) {
        String[] gaps = {" ", " ", " ", "  ", "\n", " \n "};
        return gaps[r.nextInt(gaps.length)];
    }

    private static String words(Random r, String line) {
        StringBuilder b = new StringBuilder();
        for (String w : line.split(" ")) {
            b.append(w).append(gap(r));
        }
        return b.toString();
    }

    private static String steps(Random r, int n, int kinds) {
        StringBuilder b = new StringBuilder();
        for (int i = 0; i < n; i++) {
            b.append(r.nextInt(kinds)).append(' ');
        }
        return b.toString();
    }

    private static String line(Random r, int kinds) {
        int size = r.nextInt(12) + 1;
        int every;
        switch (r.nextInt(8)) {
            case 0:
            case 1:
                return "round " + r.nextInt(2) + " of " + steps(r, size, kinds) + "begins " + r.nextInt(size);
            case 2:
            case 3:
                return ("answers " + r.nextInt(kinds) + " " + steps(r, r.nextInt(9), 6)).trim();
            case 4:
                int last = r.nextInt(4) == 0 ? 200 : 40;
                return "stumble " + r.nextInt(2) + " at " + r.nextInt(last) + " does " + r.nextInt(6) + " lag " + r.nextInt(10);
            case 5:
                return "mud " + r.nextInt(r.nextInt(4) == 0 ? 200 : 40);
            case 6:
                every = r.nextInt(9) + 1;
                return "wood every " + every + " at " + r.nextInt(every);
            default:
                every = r.nextInt(r.nextInt(3) == 0 ? 30 : 12) + 1;
                return "tune " + every + " at " + r.nextInt(every);
        }
    }

    private static String head(Random r) {
        int gap = r.nextInt(3) == 0 ? r.nextInt(21) : r.nextInt(4);
        int odds = r.nextInt(3) == 0 ? r.nextInt(101) : r.nextInt(10);
        int rain = r.nextInt(3) == 0 ? r.nextInt(101) : r.nextInt(20);
        return "dance gap " + gap + " odds " + odds + " rain " + rain;
    }

    /** A text of whole LINES; now and then one too many, or one twice. */
    static String lines(Random r, int most) {
        StringBuilder b = new StringBuilder(words(r, head(r))).append(";");
        int kinds = r.nextInt(3) == 0 ? 6 : r.nextInt(3) + 2;
        if (r.nextInt(3) > 0) {
            for (int side = 0; side < 2; side++) {
                int size = r.nextInt(r.nextInt(2) == 0 ? 12 : 3) + 1;
                b.append(words(r, "round " + side + " of " + steps(r, size, kinds) + "begins " + r.nextInt(size))).append(";");
            }
        }
        if (r.nextInt(2) == 0) {
            for (int step = 0; step < 6; step++) {
                b.append(words(r, ("answers " + step + " " + steps(r, r.nextInt(5), 6)).trim())).append(";");
            }
        }
        int n = r.nextInt(most + 1);
        for (int i = 0; i < n; i++) {
            String next = words(r, line(r, kinds)) + ";" + (r.nextInt(3) == 0 ? "\n" : "");
            if (b.length() + next.length() > 1180) {
                break;
            }
            b.append(next);
        }
        return b.toString();
    }

    /** The text with one thing put wrong (or by luck still right). */
    static String spoiled(Random r, String text) {
        String[] odd = {"dance", "mud", "begins", "at", "x", ";", "7", "12", "200", "0", "31", "99999999999", "A", "#", "\t",
            "" + (char) 233, "of", "lag", "round", "00", "-1", "wood every 9 at 9;", "tune 0 at 0;", ""};
        String put = odd[r.nextInt(odd.length)];
        int from = r.nextInt(text.length() + 1);
        switch (r.nextInt(4)) {
            case 0:
                return text.substring(0, from);
            case 1:
                return text.substring(0, from) + put + text.substring(from);
            case 2:
                return text.substring(0, from) + text.substring(Math.min(text.length(), from + 1 + r.nextInt(4)));
            default: {
                String[] words = text.split(" ", -1);
                words[r.nextInt(words.length)] = put;
                return String.join(" ", words);
            }
        }
    }
}
