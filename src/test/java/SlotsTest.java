/** Promises 69 and 72 to 74: rows of numbers, and how many slots have one. */
public final class SlotsTest {
    private static final Check CHECK = new Check("SlotsTest");
    // Clause i says 2 to the i-th, so that meetings of 31 tell which numbers stand in a row.
    private static final String CLAUSES = "gorge far 1 far 1 odds 0; clause says 1 gives 0 gives 0;"
            + "clause says 2 gives 0 gives 0; clause says 4 gives 0 gives 0; clause says 8 gives 0 gives 0;"
            + "clause says 16 gives 0 gives 0;";

    public static void main(String[] args) {
        rows();
        writes();
        widths();
        pastes();
        pasteRefusals();
        CHECK.finish();
    }

    private static void rows() {
        WristTreaty x = new WristTreaty();
        CHECK.due("count(10)", x.count(10), 0);
        CHECK.due("row(4, 0, 1)", x.row(4, 0, 1), -2);
        CHECK.due("row(-1, 0, 1)", x.row(-1, 0, 1), -2);
        CHECK.due("row(0, 4, 1)", x.row(0, 4, 1), -2);
        CHECK.due("row(0, -1, 1)", x.row(0, -1, 1), -2);
        CHECK.due("row(0, 0, 61)", x.row(0, 0, 61), -2);
        CHECK.due("row(0, 0, -1)", x.row(0, 0, -1), -3);
        CHECK.due("row(4, 0, -1)", x.row(4, 0, -1), -2);
        CHECK.due("row(0, 4, -1)", x.row(0, 4, -1), -2);
        CHECK.due("none made", x.count(10), 0);
        CHECK.due("row(0, 0, 60)", x.row(0, 0, 60), 0);
        CHECK.due("row(3, 3, 0)", x.row(3, 3, 0), 0);
        CHECK.due("two made", x.count(10), 2);
        CHECK.due("write(0, 59, 1)", x.write(0, 59, 1), 0);
        CHECK.due("row(0, 0, -1)", x.row(0, 0, -1), -3);
        CHECK.due("the slot stays", x.write(0, 59, 1), 0);
        CHECK.due("row(0, 0, 61)", x.row(0, 0, 61), -2);
        CHECK.due("the slot stays", x.write(0, 59, 1), 0);
        CHECK.due("row(0, 1, 2)", x.row(0, 1, 2), 0);
        CHECK.due("another row", x.write(0, 2, 1), -7);
        CHECK.due("two still", x.count(10), 2);
    }

    private static void writes() {
        WristTreaty x = Check.of(CLAUSES);
        CHECK.due("write(4, 0, 0)", x.write(4, 0, 0), -2);
        CHECK.due("write(-1, 0, 0)", x.write(-1, 0, 0), -2);
        CHECK.due("write(0, 0, 0)", x.write(0, 0, 0), -6);
        x.row(0, 0, 2);
        CHECK.due("write(0, 2, 0)", x.write(0, 2, 0), -7);
        CHECK.due("write(0, -1, 0)", x.write(0, -1, 0), -7);
        CHECK.due("all 0", x.waits(0, 1), 1);
        CHECK.due("write(0, 1, 4)", x.write(0, 1, 4), 0);
        CHECK.due("too long for 15", x.cut(0, 15), -1);
        CHECK.due("0 and 4", x.cut(0, 17), 1);
        CHECK.due("0 and 4", x.cut(0, 16), 2);
        x.write(0, 0, 3);
        x.row(0, 0, 2);
        CHECK.due("all 0 again", x.cut(0, 2), 1);
        x.row(1, 2, 0);
        CHECK.due("write to an empty row", x.write(1, 0, 0), -7);
    }

    private static void widths() {
        WristTreaty x = Check.of(CLAUSES);
        long[] wholes = {1L << 8, 1L << 16, 1L << 32};
        for (int width = 0; width < 4; width++) {
            x.row(0, width, 1);
            for (int k = 0; k < 3; k++) {
                x.write(0, 0, wholes[k] + 3);
                CHECK.due("width " + width + ", 3 more than " + wholes[k], x.cut(0, 8), k >= width ? 1 : -2);
                x.write(0, 0, -wholes[k] + 3);
                CHECK.due("width " + width + ", 3 less " + wholes[k], x.cut(0, 8), k >= width ? 1 : -2);
            }
            x.write(0, 0, -1);
            CHECK.due("width " + width + ", -1", x.cut(0, 8), -2);
            x.write(0, 0, Long.MIN_VALUE);
            CHECK.due("width " + width + ", the least", x.cut(0, 8), width < 3 ? 1 : -2);
        }
    }

    /** The row of slot 0, by what meetings of growing holds say of its parts. */
    private static void due(WristTreaty x, int slot, int... numbers) {
        for (int i = 0; i < numbers.length; i++) {
            x.row(3, 0, 1);
            CHECK.due("paste one", x.paste(slot, i, 3, 0, 1), 0);
            int length = 1 << numbers[i];
            CHECK.due("number " + i + " is " + numbers[i], x.cut(3, length), 1);
            if (length > 1) {
                CHECK.due("number " + i + " is " + numbers[i], x.cut(3, length - 1), -1);
            }
        }
        CHECK.due("no more numbers", x.paste(slot, numbers.length, 3, 0, 1), -7);
    }

    private static void fill(WristTreaty x, int slot, int... numbers) {
        x.row(slot, 0, numbers.length);
        for (int i = 0; i < numbers.length; i++) {
            x.write(slot, i, numbers[i]);
        }
    }

    private static void pastes() {
        WristTreaty x = Check.of(CLAUSES);
        fill(x, 0, 0, 1, 2, 3, 4);
        fill(x, 1, 4, 4, 4);
        CHECK.due("paste(0, 1, 1, 0, 2)", x.paste(0, 1, 1, 0, 2), 0);
        due(x, 1, 1, 2, 4);
        due(x, 0, 0, 1, 2, 3, 4);
        CHECK.due("to its own, behind", x.paste(0, 0, 0, 1, 4), 0);
        due(x, 0, 0, 0, 1, 2, 3);
        fill(x, 0, 0, 1, 2, 3, 4);
        CHECK.due("to its own, ahead", x.paste(0, 1, 0, 0, 4), 0);
        due(x, 0, 1, 2, 3, 4, 4);
        CHECK.due("all of it", x.paste(0, 0, 0, 0, 5), 0);
        CHECK.due("none", x.paste(0, 5, 1, 3, 0), 0);
        due(x, 0, 1, 2, 3, 4, 4);
        due(x, 1, 1, 2, 4);
    }

    private static void pasteRefusals() {
        WristTreaty x = Check.of(CLAUSES);
        fill(x, 0, 0, 1, 2);
        fill(x, 1, 4, 4, 4);
        x.row(2, 1, 3);
        CHECK.due("no such slot", x.paste(4, 0, 0, 0, 1), -2);
        CHECK.due("no such slot", x.paste(-1, 0, 0, 0, 1), -2);
        CHECK.due("no such slot to", x.paste(0, 0, 4, 0, 1), -2);
        CHECK.due("no such slot to", x.paste(0, 0, -1, 0, 1), -2);
        CHECK.due("one has nothing, one is none", x.paste(3, 0, 4, 0, 1), -2);
        CHECK.due("it has nothing", x.paste(3, 0, 0, 0, 1), -6);
        CHECK.due("the other has nothing", x.paste(0, 0, 3, 0, 1), -6);
        CHECK.due("nothing, and beyond", x.paste(0, 9, 3, 0, 1), -6);
        CHECK.due("not of one width", x.paste(0, 0, 2, 0, 1), -8);
        CHECK.due("not of one width, and beyond", x.paste(0, 0, 2, 0, 9), -8);
        int[][] beyond = {{-1, 0, 1}, {0, -1, 1}, {0, 0, -1}, {3, 0, 1}, {0, 3, 1}, {1, 0, 3}, {0, 1, 3}, {0, 0, 4},
            {4, 0, 0}, {0, 4, 0}, {1, 0, Integer.MAX_VALUE}, {Integer.MAX_VALUE, 0, 1}, {0, Integer.MAX_VALUE, 2},
            {Integer.MIN_VALUE, 0, 1}, {0, 0, Integer.MIN_VALUE}};
        for (int[] b : beyond) {
            CHECK.due("paste(0, " + b[0] + ", 1, " + b[1] + ", " + b[2] + ")", x.paste(0, b[0], 1, b[1], b[2]), -7);
        }
        due(x, 0, 0, 1, 2);
        due(x, 1, 4, 4, 4);
    }
}
