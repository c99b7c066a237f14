/** SLOTS (I), and promises 39 to 41, 61 to 63: a ROUND half heard, and rows of numbers. */
final class SlotEdges extends Edges {
    @Override
    void all() {
        theSlots();
        promise39();
        promise40();
        promise41();
        promise61();
        promise62();
        promise63();
        promise63Refused();
    }

    private static void theSlots() {
        sentence("I", "SLOTS 0 .. 3 have rows of numbers of 1, 2, 4 or 8 bytes (WIDTH 0 .. 3), at most 60, or nothing", () -> {
            OverHill x = new OverHill();
            for (int slot = 0; slot < 4; slot++) {
                due("nothing", x.half(slot), -6);
            }
            for (int slot = 0; slot < 4; slot++) {
                for (int width = 0; width < 4; width++) {
                    due("row(" + slot + ", " + width + ", 60)", x.row(slot, width, 60), 0);
                    due("the last", x.write(slot, 59, -1), 0);
                    due("one beyond", x.write(slot, 60, -1), -7);
                    due("row(" + slot + ", " + width + ", 61)", x.row(slot, width, 61), -2);
                }
                due("SLOTS", x.count(12), slot + 1);
            }
            due("row(4, ..)", x.row(4, 0, 1), -2);
            due("row(-1, ..)", x.row(-1, 0, 1), -2);
        });
    }

    private static void halved(String what, OverHill x, int half, int open, int... fills) {
        due(what + ": half", x.half(0), half);
        due(what + ": open", x.open(0), open);
        for (int i = 0; i < fills.length; i++) {
            due(what + ": fills " + i, x.fills(0, i), fills[i]);
        }
        due(what + ": fills beyond", x.fills(0, Math.max(half, 0)), NONE);
    }

    private static void promise39() {
        sentence("39", "the length (1 .. 12) of the shortest ROUND of which a SLOT's row of STEPS (NONE: not heard) can be, one each BEAT, from PLACE 0 on", () -> {
            halved("an empty row", withRow(""), 1, 1, NONE);
            halved("NONE alone", withRow("", -1), 1, 1, NONE);
            halved("NONE alone, thrice", withRow("", -1, -1, -1), 1, 1, NONE);
            halved("one", withRow("", 5), 1, 0, 5);
            halved("one, behind NONE", withRow("", -1, -1, 3), 1, 0, 3);
            halved("two alike", withRow("", 0, 0), 1, 0, 0);
            halved("two unlike", withRow("", 0, 5), 2, 0, 0, 5);
            halved("two by turns", withRow("", 0, 5, 0, 5, -1, 5), 2, 0, 0, 5);
            halved("three", withRow("", 0, 1, -1, 0, -1, 2), 3, 0, 0, 1, 2);
            // 0 in 0, and 1 in 3: not of one PLACE nor of three, but of two
            halved("two of four", withRow("", 0, -1, -1, 1), 2, 0, 0, 1);
            long[] sixty = new long[60];
            java.util.Arrays.fill(sixty, -1);
            halved("sixty of NONE", withRow("", sixty), 1, 1, NONE);
            sixty[59] = 4;
            halved("the last of sixty", withRow("", sixty), 1, 0, 4);
            for (int i = 0; i < 60; i++) {
                sixty[i] = i % 12 == 11 ? 5 : 0;
            }
            halved("five times twelve", withRow("", sixty), 12, 0, 0, 0, 0, 0, 0, 0, 0, 0, 0, 0, 0, 5);
            due("with a DANCE, too", withRow(CALM, 0, 1).half(0), 2);
            halved("twelve", withRow("", 0, 0, 0, 0, 0, 0, 0, 0, 0, 0, 0, 1), 12, 0, 0, 0, 0, 0, 0, 0, 0, 0, 0, 0, 0, 1);
            halved("eleven", withRow("", 0, 0, 0, 0, 0, 0, 0, 0, 0, 0, 1), 11, 0, 0, 0, 0, 0, 0, 0, 0, 0, 0, 0, 1);
        });
        sentence("39", "NONE: there is none", () -> {
            long[] thirteen = new long[13];
            thirteen[12] = 1;
            halved("thirteen", withRow("", thirteen), NONE, NONE);
            long[] sixty = new long[60];
            sixty[59] = 1;
            halved("sixty", withRow("", sixty), NONE, NONE);
        });
        sentence("39", "-2: there is no such SLOT, a number is no STEP, not NONE (asked last)", () -> {
            for (int slot : NO_SLOTS) {
                refused("SLOT " + slot, withRow("", 0), slot, -2);
            }
            for (long number : new long[] {6, -2, 255, 1000, LEAST, MOST}) {
                refused("number " + number, withRow("", number), 0, -2);
                refused("number " + number, withRow("", 0, 1, number), 0, -2);
                // thirteen, of which there is no ROUND, and one that is none: -2
                refused("number " + number, withRow("", 0, 0, 0, 0, 0, 0, 0, 0, 0, 0, 0, 0, 1, number), 0, -2);
            }
            for (long number : new long[] {1L << 32, (1L << 32) + 5, (1L << 32) - 1, Long.MIN_VALUE, Long.MAX_VALUE}) {
                OverHill x = new OverHill();
                putRow(x, 0, 3, 0, number);
                refused("number " + number, x, 0, -2);
            }
        });
        sentence("39", "-6: it has nothing", () -> {
            OverHill x = withRow("", 7);
            for (int slot = 1; slot < 4; slot++) {
                refused("SLOT " + slot, x, slot, -6);
            }
            refused("with a DANCE", told(CALM), 0, -6);
        });
    }

    private static void refused(String what, OverHill x, int slot, int by) {
        due(what + ": half", x.half(slot), by);
        due(what + ": open", x.open(slot), by);
        for (int i : new int[] {-1, 0, 5, 12, MOST}) {
            due(what + ": fills " + i, x.fills(slot, i), by);
        }
    }

    /**
     * 0 is told in 0, and 1 in 18, 20, 44 and 56: one of these is divided by each of 1 .. 11, so
     * of twelve alone it can be, where they are in PLACES 6 and 8.
     */
    private static OverHill threeOfTwelve() {
        OverHill x = new OverHill();
        long[] row = new long[57];
        java.util.Arrays.fill(row, -1);
        row[0] = 0;
        for (int i : new int[] {18, 20, 44, 56}) {
            row[i] = 1;
        }
        putRow(x, 0, 0, row);
        return x;
    }

    private static void promise40() {
        sentence("40", "STEP i of it", () -> {
            OverHill x = threeOfTwelve();
            due("half", x.half(0), 12);
            due("PLACE 0", x.fills(0, 0), 0);
            due("PLACE 6", x.fills(0, 6), 1);
            due("PLACE 8", x.fills(0, 8), 1);
            OverHill y = withRow("", 5, 4, 3, 2, 1, 0, 5, 4);
            for (int i = 0; i < 6; i++) {
                due("fills(0, " + i + ")", y.fills(0, i), 5 - i);
            }
        });
        sentence("40", "NONE: not told, there is none", () -> {
            OverHill x = threeOfTwelve();
            for (int i : new int[] {1, 2, 3, 4, 5, 7, 9, 10, 11}) {
                due("not told: fills(0, " + i + ")", x.fills(0, i), NONE);
            }
            for (int i : new int[] {-1, 12, 18, 60, LEAST, MOST}) {
                due("there is none: fills(0, " + i + ")", x.fills(0, i), NONE);
            }
            long[] thirteen = new long[13];
            thirteen[12] = 1;
            due("no ROUND", withRow("", thirteen).fills(0, 0), NONE);
            due("an empty row", withRow("").fills(0, 0), NONE);
        });
        sentence("40", "-2, -6 likewise", () -> {
            OverHill x = withRow("", 6);
            due("no STEP", x.fills(0, 0), -2);
            due("no STEP, nor PLACE", x.fills(0, 99), -2);
            due("nothing", x.fills(1, 0), -6);
            due("nothing, nor PLACE", x.fills(1, -1), -6);
            due("no SLOT", x.fills(4, 0), -2);
        });
    }

    private static void promise41() {
        sentence("41", "How many STEPS of it are not told", () -> {
            due("nine of twelve", threeOfTwelve().open(0), 9);
            due("none of one", withRow("", 0).open(0), 0);
            due("one of one", withRow("", -1, -1).open(0), 1);
            due("one of one, an empty row", withRow("").open(0), 1);
            due("one of three", withRow("", 0, -1, 1).open(0), 1);
            // of seven PLACES the last could stand in the one not told
            due("two of twelve", withRow("", 0, 0, 0, 0, 0, 0, 0, 0, 0, -1, -1, 1).open(0), 2);
            due("none of seven", withRow("", 0, 0, 0, 0, -1, 0, 0, 0, 0, 0, 0, 1).open(0), 0);
        });
        sentence("41", "NONE: there is none", () -> {
            long[] thirteen = new long[13];
            thirteen[12] = 1;
            thirteen[9] = -1;
            due("thirteen", withRow("", thirteen).open(0), NONE);
        });
        sentence("41", "-2, -6 likewise", () -> {
            OverHill x = withRow("", 6);
            due("no STEP", x.open(0), -2);
            due("nothing", x.open(1), -6);
            due("no SLOT", x.open(-1), -2);
        });
    }

    private static void promise61() {
        sentence("61", "A SLOT (0 .. 3) has a row of n numbers of a WIDTH, all 0 (in place of another one): 0", () -> {
            for (int slot = 0; slot < 4; slot++) {
                for (int width = 0; width < 4; width++) {
                    OverHill x = new OverHill();
                    due("row", x.row(slot, width, 60), 0);
                    for (int i = 0; i < 60; i++) {
                        x.write(slot, i, 7);
                    }
                    due("7 is no STEP", x.half(slot), -2);
                    due("row again", x.row(slot, width, 60), 0);
                    due("all 0", x.half(slot), 1);
                    due("all 0", x.fills(slot, 0), 0);
                    x.write(slot, 2, 7);
                    due("shorter", x.row(slot, 3 - width, 2), 0);
                    due("as long as that", x.write(slot, 2, 1), -7);
                    due("and then longer", x.row(slot, width, 3), 0);
                    due("all 0", x.half(slot), 1);
                    due("n 0", x.row(slot, width, 0), 0);
                    due("it has a row", x.count(12), 1);
                    due("an empty one", x.open(slot), 1);
                }
            }
        });
        sentence("61", "-2: there is no such SLOT or WIDTH (0 .. 3), or n is above 60", () -> {
            OverHill x = withRow("", 5);
            for (int slot : NO_SLOTS) {
                due("SLOT " + slot, x.row(slot, 0, 1), -2);
                due("SLOT " + slot + ", n below 0", x.row(slot, 0, -1), -2);
            }
            for (int width : new int[] {-1, 4, LEAST, MOST}) {
                due("WIDTH " + width, x.row(0, width, 1), -2);
                due("WIDTH " + width + ", n below 0", x.row(0, width, -1), -2);
            }
            for (int n : new int[] {61, 62, MOST}) {
                due("n " + n, x.row(0, 0, n), -2);
            }
            due("n 60", x.row(1, 0, 60), 0);
            due("the SLOT stays", x.fills(0, 0), 5);
        });
        sentence("61", "-3, and the SLOT stays: n is below 0", () -> {
            OverHill x = withRow("", 5);
            for (int n : new int[] {-1, -60, LEAST}) {
                due("n " + n, x.row(0, 0, n), -3);
                due("it stays", x.fills(0, 0), 5);
                due("its WIDTH stays", x.write(0, 0, 256 + 5), 0);
                due("its WIDTH stays", x.half(0), -2);
                x.write(0, 0, 5);
                due("n " + n + " of nothing", x.row(1, 0, n), -3);
                due("it stays", x.half(1), -6);
            }
        });
    }

    private static void promise62() {
        sentence("62", "Number i of the SLOT's row is v, cut to its WIDTH: 0", () -> {
            long[] over = {1L << 8, 1L << 16, 1L << 32};
            for (int width = 0; width < 3; width++) {
                long o = over[width];
                is(width, o, 0);
                is(width, o + 5, 5);
                is(width, -o + 5, 5);
                is(width, 3 * o + 4, 4);
                is(width, o - 1, NONE);
                is(width, -1, NONE);
                is(width, -o - 1, NONE);
                is(width, Long.MAX_VALUE, NONE);
                is(width, Long.MIN_VALUE, 0);
                isNone(width, o / 2);
                isNone(width, o / 2 + 5);
                isNone(width, -o / 2);
                isNone(width, o - 2);
                isNone(width, o + 6);
            }
            // what is cut of one WIDTH is not of the next one
            isNone(1, 1 << 8);
            isNone(1, (1 << 8) - 1);
            isNone(2, 1 << 16);
            isNone(2, (1 << 16) - 1);
            isNone(3, 1L << 32);
            isNone(3, (1L << 32) - 1);
            isNone(3, Long.MAX_VALUE);
            isNone(3, Long.MIN_VALUE);
            is(3, 5, 5);
            is(3, -1, NONE);
            OverHill x = withRow("", 0, 0, 0);
            due("number 0", x.write(0, 0, 1), 0);
            due("number 2", x.write(0, 2, 3), 0);
            due("its own alone", x.fills(0, 0), 1);
            due("its own alone", x.fills(0, 1), 0);
            due("its own alone", x.fills(0, 2), 3);
            due("the last of sixty", x.row(3, 0, 60) + x.write(3, 59, 1), 0);
            // a BEAT of 199 is one of two bytes; of one byte it is below 0
            OverHill y = told(CALM);
            putRow(y, 0, 1, 199, 1);
            due("199 of two bytes", y.heard(0, 0), 3601);
            putRow(y, 0, 0, 199, 1);
            due("199 of one byte", y.heard(0, 0), -2);
            putRow(y, 0, 0, 127, 1);
            due("127 of one byte", y.heard(0, 0), 3601);
            putRow(y, 0, 0, 128, 1);
            due("128 of one byte", y.heard(0, 0), -2);
        });
        sentence("62", "-2: there is no such SLOT", () -> {
            OverHill x = withRow("", 5);
            for (int slot : NO_SLOTS) {
                due("write(" + slot + ", 0, 1)", x.write(slot, 0, 1), -2);
                due("nor such a number", x.write(slot, -1, 1), -2);
            }
        });
        sentence("62", "-6: it has nothing", () -> {
            OverHill x = withRow("", 5);
            for (int slot = 1; slot < 4; slot++) {
                due("write(" + slot + ", 0, 1)", x.write(slot, 0, 1), -6);
                due("nor such a number", x.write(slot, -1, 1), -6);
                due("nor such a number", x.write(slot, 60, 1), -6);
            }
        });
        sentence("62", "-7: there is no such number", () -> {
            OverHill x = withRow("", 5, 4);
            for (int i : new int[] {-1, 2, 59, 60, LEAST, MOST}) {
                due("write(0, " + i + ", 1)", x.write(0, i, 1), -7);
            }
            due("nothing happens", x.fills(0, 0), 5);
            due("nothing happens", x.fills(0, 1), 4);
            due("an empty row", x.row(1, 0, 0), 0);
            due("an empty row", x.write(1, 0, 1), -7);
        });
    }

    /** A number of a WIDTH is then a STEP, or NONE: where it stands behind a 0 it is told, or not. */
    private static void is(int width, long number, int due) {
        OverHill x = new OverHill();
        putRow(x, 0, width, number);
        due(number + " of WIDTH " + width, x.fills(0, 0), due);
        due(number + " of WIDTH " + width + " is none such", x.half(0), 1);
    }

    /** A number of a WIDTH is then neither a STEP nor NONE. */
    private static void isNone(int width, long number) {
        OverHill x = new OverHill();
        putRow(x, 0, width, number);
        due(number + " of WIDTH " + width, x.half(0), -2);
    }

    /** Numbers of a SLOT as they are, each pasted into a row of its own. */
    private static void rowIs(String what, OverHill x, int slot, int width, int... numbers) {
        for (int i = 0; i < numbers.length; i++) {
            due("a row of one", x.row(3, width, 1), 0);
            due("number " + i, x.paste(slot, i, 3, 0, 1), 0);
            due(what + ": number " + i, x.fills(3, 0), numbers[i]);
        }
        due(what + ": not more", x.write(slot, numbers.length, 0), -7);
    }

    private static void promise63() {
        sentence("63", "So many numbers of a SLOT's row, from one on, are put to another one's (or its own), from one on, as they were: 0", () -> {
            for (int width = 0; width < 4; width++) {
                OverHill x = new OverHill();
                putRow(x, 0, width, 0, 1, 2, 3, 4, 5);
                putRow(x, 1, width, 5, 5, 5, 5);
                due("three", x.paste(0, 2, 1, 1, 3), 0);
                rowIs("put", x, 1, width, 5, 2, 3, 4);
                rowIs("as it was", x, 0, width, 0, 1, 2, 3, 4, 5);
                due("none", x.paste(0, 0, 1, 0, 0), 0);
                due("none, at the ends", x.paste(0, 6, 1, 4, 0), 0);
                rowIs("none", x, 1, width, 5, 2, 3, 4);
                due("up by one", x.paste(0, 0, 0, 1, 5), 0);
                rowIs("up, as they were", x, 0, width, 0, 0, 1, 2, 3, 4);
                due("down by two", x.paste(0, 2, 0, 0, 4), 0);
                rowIs("down, as they were", x, 0, width, 1, 2, 3, 4, 3, 4);
                due("its own place", x.paste(0, 1, 0, 1, 5), 0);
                rowIs("its own place", x, 0, width, 1, 2, 3, 4, 3, 4);
                due("the first to the last", x.paste(0, 0, 0, 5, 1), 0);
                rowIs("the first to the last", x, 0, width, 1, 2, 3, 4, 3, 1);
            }
            OverHill sixty = new OverHill();
            sixty.row(0, 1, 60);
            sixty.row(1, 1, 60);
            sixty.write(0, 0, 3);
            sixty.write(0, 59, 4);
            due("all sixty", sixty.paste(0, 0, 1, 0, 60), 0);
            due("all sixty, up by one", sixty.paste(1, 0, 1, 1, 59), 0);
            rowIs("the first two", withFirst(sixty), 2, 1, 3, 3, 0);
            due("empty rows", emptyRows().paste(0, 0, 1, 0, 0), 0);
            // NONE and BEATS of two bytes go as they are
            OverHill y = told(CALM);
            putRow(y, 0, 1, 199, -1);
            putRow(y, 1, 1, 0, 0);
            due("two", y.paste(0, 0, 1, 0, 2), 0);
            due("none heard in BEAT 199 by SIDE 0", y.heard(1, 0), 0);
        });
    }

    private static OverHill withFirst(OverHill sixty) {
        sixty.row(2, 1, 3);
        due("the first three", sixty.paste(1, 0, 2, 0, 3), 0);
        return sixty;
    }

    private static OverHill emptyRows() {
        OverHill x = new OverHill();
        x.row(0, 2, 0);
        x.row(1, 2, 0);
        return x;
    }

    private static void promise63Refused() {
        sentence("63", "-2: there is no such SLOT", () -> {
            OverHill x = withRow("", 5);
            for (int slot : NO_SLOTS) {
                due("from " + slot, x.paste(slot, 0, 0, 0, 1), -2);
                due("to " + slot, x.paste(0, 0, slot, 0, 1), -2);
                due("both " + slot, x.paste(slot, 0, slot, 0, 1), -2);
                due("from " + slot + " to nothing", x.paste(slot, 0, 1, 0, 1), -2);
                due("from nothing to " + slot, x.paste(1, 0, slot, 0, 1), -2);
                due("from " + slot + ", n below 0", x.paste(slot, -1, 0, -1, -1), -2);
            }
        });
        sentence("63", "-6: one has nothing", () -> {
            OverHill x = withRow("", 5);
            due("to nothing", x.paste(0, 0, 1, 0, 1), -6);
            due("from nothing", x.paste(1, 0, 0, 0, 1), -6);
            due("both", x.paste(1, 0, 2, 0, 1), -6);
            due("its own nothing", x.paste(3, 0, 3, 0, 0), -6);
            due("n below 0", x.paste(0, -1, 1, -1, -1), -6);
            due("beyond", x.paste(1, 0, 0, 9, 99), -6);
        });
        sentence("63", "-8: they are not of one WIDTH", () -> {
            OverHill x = new OverHill();
            for (int width = 0; width < 4; width++) {
                putRow(x, width, width, 1, 2);
            }
            for (int from = 0; from < 4; from++) {
                for (int to = 0; to < 4; to++) {
                    int due = from == to ? 0 : -8;
                    due("paste(" + from + ", 0, " + to + ", 1, 1)", x.paste(from, 0, to, 1, 1), due);
                    due("none", x.paste(from, 0, to, 0, 0), due);
                    due("n below 0", x.paste(from, 0, to, 0, -1), from == to ? -7 : -8);
                    due("beyond", x.paste(from, 2, to, 2, 1), from == to ? -7 : -8);
                }
            }
            OverHill none = withRow("", 5);
            none.row(1, 1, 0);
            due("an empty row has a WIDTH", none.paste(0, 0, 1, 0, 0), -8);
        });
        sentence("63", "-7, and nothing happens: some are beyond their rows, or a place or n is below 0", () -> {
            OverHill x = new OverHill();
            putRow(x, 0, 1, 0, 1, 2, 3);
            putRow(x, 1, 1, 5, 4);
            int[][] beyond = {{0, 0, 3}, {0, 1, 2}, {0, 2, 1}, {3, 0, 2}, {4, 0, 1}, {-1, 0, 1}, {0, -1, 1}, {0, 0, -1}, {-1, -1, -1}, {1, 1, -1},
                {LEAST, 0, 1}, {0, LEAST, 1}, {0, 0, LEAST}, {MOST, 0, 1}, {0, MOST, 1}, {0, 0, MOST}, {MOST, 0, MOST}, {1, 1, MOST},
                {MOST, MOST, MOST}, {-1, 0, 0}, {0, -1, 0}};
            for (int[] b : beyond) {
                due("paste(0, " + b[0] + ", 1, " + b[1] + ", " + b[2] + ")", x.paste(0, b[0], 1, b[1], b[2]), -7);
            }
            due("from beyond", x.paste(1, 0, 0, 0, 3), -7);
            due("its own", x.paste(0, 0, 0, 1, 4), -7);
            due("its own", x.paste(0, 1, 0, 0, 4), -7);
            rowIs("nothing happens", x, 0, 1, 0, 1, 2, 3);
            rowIs("nothing happens", x, 1, 1, 5, 4);
            due("just within", x.paste(0, 2, 1, 0, 2), 0);
            rowIs("put", x, 1, 1, 2, 3);
        });
    }
}
