/** The terms on SLOTS and promises 72 to 74, sentence by sentence: every boundary that the document names for rows. */
public final class SlotsEdgesTest {
    private static final Check CHECK = new Check("SlotsEdgesTest");
    private static final int[] NO_SLOTS = {-1, 4, Integer.MIN_VALUE, Integer.MAX_VALUE};
    // Clause i says i + 1 beats.
    private static final String SEVEN = "gorge far 1 far 1 odds 0;" + clause(1) + clause(2) + clause(3) + clause(4)
            + clause(5) + clause(6) + clause(7);

    public static void main(String[] args) {
        rowRefused();
        rowOfEachSize();
        rowInPlaceOfAnother();
        writeRefused();
        writeCutToItsWidth();
        writeOneNumberAlone();
        pasteRefused();
        pasteBeyond();
        pasteNothing();
        pasteAsTheyWere();
        pasteOfEachWidth();
        slotsOutliveGorges();
        CHECK.finish();
    }

    private static String clause(int says) {
        return "clause says " + says + " gives 0 gives 0;";
    }

    /** A clause's number, from the shortest meeting in which the number i of a row is said; NONE: it is no clause. */
    private static int numberAt(WristTreaty x, int slot, int i, int spare) {
        for (int width = 0; width < 4; width++) {
            x.row(spare, width, 1);
            if (x.paste(slot, i, spare, 0, 1) == 0) {
                break;
            }
        }
        for (int hold = 1; hold <= 7; hold++) {
            if (x.cut(spare, hold) == 1) {
                return hold - 1;
            }
        }
        return -1;
    }

    private static void row(WristTreaty x, int slot, int... due) {
        for (int i = 0; i < due.length; i++) {
            CHECK.due("slot " + slot + ", number " + i, numberAt(x, slot, i, 3), due[i]);
        }
        CHECK.due("slot " + slot + ", no more", x.write(slot, due.length, 0), -7);
    }

    private static WristTreaty filled(int width) {
        WristTreaty x = Check.of(SEVEN);
        x.row(0, width, 6);
        x.row(1, width, 4);
        for (int i = 0; i < 6; i++) {
            x.write(0, i, 1 + i);
        }
        for (int i = 0; i < 4; i++) {
            x.write(1, i, 6);
        }
        return x;
    }

    private static void rowRefused() {
        WristTreaty x = Check.of(SEVEN);
        for (int no : NO_SLOTS) {
            CHECK.due("row(" + no + ", 0, 1)", x.row(no, 0, 1), -2);
            CHECK.due("row(" + no + ", 0, -1)", x.row(no, 0, -1), -2);
            CHECK.due("row(0, " + no + ", 1)", x.row(0, no, 1), -2);
            CHECK.due("row(0, " + no + ", -1)", x.row(0, no, -1), -2);
        }
        CHECK.due("row(0, 0, 61)", x.row(0, 0, 61), -2);
        CHECK.due("the farthest", x.row(0, 0, Integer.MAX_VALUE), -2);
        CHECK.due("row(0, 0, -1)", x.row(0, 0, -1), -3);
        CHECK.due("the farthest", x.row(0, 0, Integer.MIN_VALUE), -3);
        CHECK.due("no slot has a row", x.count(10), 0);
        CHECK.due("it still has nothing", x.write(0, 0, 0), -6);
        x = filled(0);
        x.row(0, 0, -1);
        x.row(0, 1, 61);
        x.row(0, 4, 2);
        row(x, 0, 1, 2, 3, 4, 5, 6);
    }

    private static void rowOfEachSize() {
        for (int width = 0; width < 4; width++) {
            for (int slot = 0; slot < 4; slot++) {
                WristTreaty x = new WristTreaty();
                for (int n : new int[] {0, 1, 59, 60}) {
                    CHECK.due("row(" + slot + ", " + width + ", " + n + ")", x.row(slot, width, n), 0);
                    CHECK.due("it has a row", x.count(10), 1);
                    CHECK.due("its first", x.write(slot, 0, 1), n > 0 ? 0 : -7);
                    CHECK.due("its last", x.write(slot, n - 1, 1), n > 0 ? 0 : -7);
                    CHECK.due("none behind", x.write(slot, n, 1), -7);
                }
            }
        }
    }

    private static void rowInPlaceOfAnother() {
        WristTreaty x = filled(0);
        x.row(0, 0, 4);
        row(x, 0, 0, 0, 0, 0);
        row(x, 1, 6, 6, 6, 6);
        x = filled(0);
        x.row(0, 0, 2);
        x.row(0, 0, 6);
        row(x, 0, 0, 0, 0, 0, 0, 0);
        row(x, 1, 6, 6, 6, 6);
        x.row(0, 2, 0);
        CHECK.due("an empty one is a row", x.count(10), 3);
        CHECK.due("an empty one is said in none", x.cut(0, 1), 0);
    }

    private static void writeRefused() {
        WristTreaty x = Check.of(SEVEN);
        for (int slot : NO_SLOTS) {
            CHECK.due("write(" + slot + ", 0, 0)", x.write(slot, 0, 0), -2);
            CHECK.due("write(" + slot + ", -1, 0)", x.write(slot, -1, 0), -2);
        }
        for (int slot = 0; slot < 4; slot++) {
            CHECK.due("it has nothing", x.write(slot, 0, 0), -6);
            CHECK.due("it has nothing, no such number", x.write(slot, -1, 0), -6);
            CHECK.due("it has nothing, no such number", x.write(slot, 60, 0), -6);
        }
        x = filled(0);
        for (int i : new int[] {-1, 6, 59, 60, Integer.MIN_VALUE, Integer.MAX_VALUE}) {
            CHECK.due("write(0, " + i + ", 6)", x.write(0, i, 6), -7);
        }
        row(x, 0, 1, 2, 3, 4, 5, 6);
        row(x, 1, 6, 6, 6, 6);
    }

    /** A number is cut to its lowest bytes, the highest bit of which tells that it is below 0. */
    private static void writeCutToItsWidth() {
        WristTreaty x = Check.of(SEVEN);
        for (int width = 0; width < 4; width++) {
            x.row(0, width, 1);
            long whole = width < 3 ? 1L << (8 << width) : 0;
            long farthest = width < 3 ? Long.MIN_VALUE : 0;
            for (long v : new long[] {2, whole + 2, 2 - whole, 3 * whole + 2, farthest + 2}) {
                CHECK.due("write", x.write(0, 0, v), 0);
                CHECK.due("width " + width + ", " + v, x.cut(0, 3), 1);
                CHECK.due("width " + width + ", " + v, x.cut(0, 2), -1);
            }
            long half = 1L << ((8 << width) - 1);
            for (long v : new long[] {-1, half, half - 1, half + 2, whole - 1, 7, -half}) {
                x.write(0, 0, v);
                CHECK.due("width " + width + ", no clause " + v, x.cut(0, 9), -2);
            }
        }
    }

    private static void writeOneNumberAlone() {
        for (int width = 0; width < 4; width++) {
            WristTreaty x = filled(width);
            CHECK.due("the first", x.write(0, 0, 0), 0);
            CHECK.due("the last", x.write(0, 5, 0), 0);
            row(x, 0, 0, 2, 3, 4, 5, 0);
            row(x, 1, 6, 6, 6, 6);
        }
    }

    private static void pasteRefused() {
        WristTreaty x = filled(0);
        for (int slot : NO_SLOTS) {
            CHECK.due("no such slot", x.paste(slot, 0, 0, 0, 1), -2);
            CHECK.due("no such slot", x.paste(0, 0, slot, 0, 1), -2);
            CHECK.due("no such slot, the other one has nothing", x.paste(slot, 0, 2, 0, 1), -2);
            CHECK.due("no such slot, the other one has nothing", x.paste(2, 0, slot, 0, 1), -2);
            CHECK.due("no such slot, no such place", x.paste(0, -1, slot, 0, 1), -2);
        }
        CHECK.due("it has nothing", x.paste(2, 0, 0, 0, 1), -6);
        CHECK.due("the other one has nothing", x.paste(0, 0, 2, 0, 1), -6);
        CHECK.due("both have nothing", x.paste(2, 0, 3, 0, 1), -6);
        CHECK.due("its own has nothing", x.paste(2, 0, 2, 0, 0), -6);
        CHECK.due("it has nothing, no such place", x.paste(2, -1, 0, 0, 1), -6);
        CHECK.due("it has nothing, no such n", x.paste(0, 0, 2, 0, -1), -6);
        for (int width = 1; width < 4; width++) {
            x.row(2, width, 4);
            CHECK.due("not of one width", x.paste(0, 0, 2, 0, 1), -8);
            CHECK.due("not of one width", x.paste(2, 0, 0, 0, 1), -8);
            CHECK.due("not of one width, none", x.paste(2, 0, 0, 0, 0), -8);
            CHECK.due("not of one width, beyond", x.paste(2, 4, 0, 0, 1), -8);
            CHECK.due("not of one width, below 0", x.paste(2, 0, 0, 0, -1), -8);
        }
        row(x, 0, 1, 2, 3, 4, 5, 6);
        row(x, 1, 6, 6, 6, 6);
    }

    private static void pasteBeyond() {
        WristTreaty x = filled(0);
        int most = Integer.MAX_VALUE;
        int least = Integer.MIN_VALUE;
        int[][] beyond = {{-1, 0, 1}, {0, -1, 1}, {0, 0, -1}, {-1, 0, 0}, {0, -1, 0}, {6, 0, 1}, {5, 0, 2}, {0, 4, 1},
            {0, 3, 2}, {0, 0, 5}, {0, 0, 7}, {3, 0, 4}, {most, 0, 1}, {0, most, 1}, {0, 0, most}, {1, 1, most}, {most, most, most},
            {least, 0, 1}, {0, least, 1}, {0, 0, least}, {most, 0, least}, {least, least, least}};
        for (int[] b : beyond) {
            String call = "paste(0, " + b[0] + ", 1, " + b[1] + ", " + b[2] + ")";
            CHECK.due(call, x.paste(0, b[0], 1, b[1], b[2]), -7);
        }
        CHECK.due("its own, beyond", x.paste(0, 0, 0, 1, 6), -7);
        CHECK.due("its own, beyond", x.paste(0, 1, 0, 0, 6), -7);
        row(x, 0, 1, 2, 3, 4, 5, 6);
        row(x, 1, 6, 6, 6, 6);
    }

    private static void pasteNothing() {
        WristTreaty x = filled(0);
        CHECK.due("none from the first", x.paste(0, 0, 1, 0, 0), 0);
        CHECK.due("none from the last", x.paste(0, 5, 1, 3, 0), 0);
        CHECK.due("none from behind the last", x.paste(0, 6, 1, 4, 0), 0);
        x.row(2, 0, 0);
        CHECK.due("none of an empty row", x.paste(2, 0, 0, 0, 0), 0);
        CHECK.due("none to an empty row", x.paste(0, 0, 2, 0, 0), 0);
        CHECK.due("one of an empty row", x.paste(2, 0, 0, 0, 1), -7);
        CHECK.due("one to an empty row", x.paste(0, 0, 2, 0, 1), -7);
        row(x, 0, 1, 2, 3, 4, 5, 6);
        row(x, 1, 6, 6, 6, 6);
    }

    private static void pasteAsTheyWere() {
        WristTreaty x = filled(0);
        CHECK.due("the last two to the first two", x.paste(0, 4, 1, 0, 2), 0);
        row(x, 1, 5, 6, 6, 6);
        CHECK.due("one to the last", x.paste(0, 1, 1, 3, 1), 0);
        row(x, 1, 5, 6, 6, 2);
        CHECK.due("all of the other row", x.paste(1, 0, 0, 2, 4), 0);
        row(x, 0, 1, 2, 5, 6, 6, 2);
        x = filled(0);
        CHECK.due("its own, one on", x.paste(0, 0, 0, 1, 5), 0);
        row(x, 0, 1, 1, 2, 3, 4, 5);
        x = filled(0);
        CHECK.due("its own, one back", x.paste(0, 1, 0, 0, 5), 0);
        row(x, 0, 2, 3, 4, 5, 6, 6);
        x = filled(0);
        CHECK.due("its own, two on", x.paste(0, 1, 0, 3, 3), 0);
        row(x, 0, 1, 2, 3, 2, 3, 4);
        CHECK.due("its own, in place", x.paste(0, 0, 0, 0, 6), 0);
        row(x, 0, 1, 2, 3, 2, 3, 4);
    }

    private static void pasteOfEachWidth() {
        long[] farthest = {-128, -32768, -2147483648L, Long.MIN_VALUE};
        for (int width = 0; width < 4; width++) {
            WristTreaty x = filled(width);
            x.row(2, width, 60);
            x.write(2, 59, farthest[width]);
            x.write(2, 58, 3);
            CHECK.due("the last two of 60", x.paste(2, 58, 1, 2, 2), 0);
            row(x, 1, 6, 6, 3, -1);
            x.row(3, width, 60);
            CHECK.due("all 60", x.paste(2, 0, 3, 0, 60), 0);
            CHECK.due("no clause", x.cut(3, 7), -2);
            CHECK.due("the last one", x.write(3, 59, 0), 0);
            CHECK.due("58 of the shortest and one of 4", x.cut(3, 63), 1);
            CHECK.due("all but one", x.cut(3, 62), 2);
        }
    }

    private static void slotsOutliveGorges() {
        WristTreaty x = filled(0);
        x.image(0);
        Check.read(x, "");
        CHECK.due("two rows without a gorge", x.count(10), 2);
        CHECK.due("a number can be written", x.write(0, 0, 0), 0);
        CHECK.due("no such number", x.write(0, 6, 6), -7);
        CHECK.due("numbers can be put", x.paste(0, 0, 1, 0, 1), 0);
        CHECK.due("a row can be made", x.row(2, 0, 1), 0);
        CHECK.due("back(0)", x.back(0), 0);
        CHECK.due("an image has no slots", x.count(10), 3);
        row(x, 0, 0, 2, 3, 4, 5, 6);
        x.anew();
        CHECK.due("nor do acts", x.count(10), 4);
    }
}
