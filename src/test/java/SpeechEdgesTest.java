/** Terms IV and promises 30 to 39, sentence by sentence: every boundary that the document names for clauses said. */
public final class SpeechEdgesTest {
    private static final Check CHECK = new Check("SpeechEdgesTest");
    private static final String FIRST = "gorge far 4 far 6 odds 2;";
    // 100 beats in all.
    private static final String FIVE = FIRST + clause(30) + clause(1) + clause(30) + clause(30) + clause(9);

    public static void main(String[] args) {
        noSuchHold();
        noSuchSlot();
        nothing();
        noClause();
        emptyRow();
        oneTakesLonger();
        notWholeInWhatIsLeft();
        fullRow();
        leastAtItsEdges();
        orderAtItsEdges();
        needsAtItsEdges();
        endsAtItsEdges();
        fullAtItsEdges();
        onceAtItsEdges();
        noClauses();
        CHECK.finish();
    }

    private static String clause(int says) {
        return "clause says " + says + " gives 2 takes 1;";
    }

    private static void said(WristTreaty x, int slot, int hold, int meetings, int waiting) {
        CHECK.due("cut(" + slot + ", " + hold + ")", x.cut(slot, hold), meetings);
        CHECK.due("waits(" + slot + ", " + hold + ")", x.waits(slot, hold), waiting);
    }

    private static void noSuchHold() {
        WristTreaty x = Check.of(FIVE);
        Check.row(x, 0, 1);
        for (int hold : new int[] {0, 100, -1, Integer.MIN_VALUE, Integer.MAX_VALUE}) {
            said(x, 0, hold, -2, -2);
            said(x, 1, hold, -2, -2);
            CHECK.due("least(" + hold + ")", x.least(hold), -2);
            CHECK.due("order(" + hold + ", 0)", x.order(hold, 0), -2);
            CHECK.due("order(" + hold + ", 9)", x.order(hold, 9), -2);
            CHECK.due("ends(" + hold + ")", x.ends(hold), -2);
        }
        for (int hold : new int[] {-1, 100, Integer.MIN_VALUE, Integer.MAX_VALUE}) {
            CHECK.due("full(" + hold + ")", x.full(hold), -2);
            CHECK.due("fulls(" + hold + ")", x.fulls(hold), -2);
            CHECK.due("once(" + hold + ")", x.once(hold), -2);
            CHECK.due("onces(" + hold + ")", x.onces(hold), -2);
        }
        said(x, 0, 1, 1, -1);
        said(x, 0, 99, 1, -1);
    }

    private static void noSuchSlot() {
        WristTreaty x = Check.of(FIVE);
        for (int slot = 0; slot < 4; slot++) {
            Check.row(x, slot, 1);
            said(x, slot, 1, 1, -1);
        }
        for (int slot : new int[] {-1, 4, Integer.MIN_VALUE, Integer.MAX_VALUE}) {
            said(x, slot, 9, -2, -2);
        }
    }

    private static void nothing() {
        WristTreaty x = Check.of(FIVE);
        for (int slot = 0; slot < 4; slot++) {
            said(x, slot, 9, -6, -6);
            said(x, slot, 0, -2, -2);
        }
    }

    private static void noClause() {
        WristTreaty x = Check.of(FIVE);
        long[] none = {-1, 5, 127, 256, 4294967296L, Long.MIN_VALUE, Long.MAX_VALUE};
        for (long no : none) {
            Check.row(x, 0, no);
            said(x, 0, 99, -2, -2);
            Check.row(x, 0, 1, 1, no);
            said(x, 0, 99, -2, -2);
            said(x, 0, 1, -2, -2);
        }
        Check.row(x, 0, 4);
        said(x, 0, 9, 1, -1);
    }

    private static void emptyRow() {
        WristTreaty x = Check.of(FIVE);
        Check.row(x, 0);
        said(x, 0, 1, 0, -1);
        said(x, 0, 99, 0, -1);
        said(x, 0, 100, -2, -2);
    }

    private static void oneTakesLonger() {
        WristTreaty x = Check.of(FIVE);
        Check.row(x, 0, 0);
        said(x, 0, 30, 1, -1);
        said(x, 0, 29, -1, -1);
        Check.row(x, 0, 1, 1, 4, 1);
        said(x, 0, 9, 3, 2);
        said(x, 0, 8, -1, -1);
    }

    private static void notWholeInWhatIsLeft() {
        WristTreaty x = Check.of(FIVE);
        Check.row(x, 0, 0, 2, 3, 4);
        said(x, 0, 99, 1, -1);
        said(x, 0, 98, 2, 3);
        Check.row(x, 0, 0, 1, 2, 3, 4);
        said(x, 0, 99, 2, 4);
        said(x, 0, 91, 2, 4);
        said(x, 0, 90, 2, 3);
        said(x, 0, 61, 2, 3);
        said(x, 0, 60, 3, 2);
        said(x, 0, 31, 4, 2);
        said(x, 0, 30, 5, 1);
    }

    private static void fullRow() {
        WristTreaty x = Check.of(FIVE);
        Check.row(x, 0, new long[60]);
        said(x, 0, 30, 60, 1);
        said(x, 0, 59, 60, 1);
        said(x, 0, 60, 30, 2);
        said(x, 0, 99, 20, 3);
        long[] ones = new long[60];
        java.util.Arrays.fill(ones, 1);
        Check.row(x, 0, ones);
        said(x, 0, 1, 60, 1);
        said(x, 0, 59, 2, 59);
        said(x, 0, 60, 1, -1);
    }

    private static void leastAtItsEdges() {
        WristTreaty x = Check.of(FIVE);
        int[][] fewest = {{1, -1}, {29, -1}, {30, 4}, {38, 4}, {39, 3}, {59, 3}, {60, 2}, {99, 2}};
        for (int[] due : fewest) {
            CHECK.due("least(" + due[0] + ")", x.least(due[0]), due[1]);
        }
        x = Check.of(FIRST + clause(1).repeat(7));
        CHECK.due("least(1)", x.least(1), 7);
        CHECK.due("least(6)", x.least(6), 2);
        CHECK.due("least(7)", x.least(7), 1);
        x = Check.of(FIRST + clause(1));
        CHECK.due("one in one", x.least(1), 1);
    }

    private static void orderAtItsEdges() {
        WristTreaty x = Check.of(FIVE);
        int[] byThirty = {0, 1, 4, 2, 3};
        for (int i = 0; i < 5; i++) {
            CHECK.due("order(30, " + i + ")", x.order(30, i), byThirty[i]);
            CHECK.due("order(99, " + i + ")", x.order(99, i), i);
            CHECK.due("one takes longer, " + i, x.order(29, i), -1);
        }
        for (int i : new int[] {-1, 5, 7, Integer.MIN_VALUE, Integer.MAX_VALUE}) {
            CHECK.due("order(30, " + i + ")", x.order(30, i), -1);
            CHECK.due("order(29, " + i + ")", x.order(29, i), -1);
            CHECK.due("order(0, " + i + ")", x.order(0, i), -2);
        }
        x = Check.of(FIRST + clause(1).repeat(7));
        CHECK.due("the last of seven", x.order(1, 6), 6);
        CHECK.due("beyond seven", x.order(1, 7), -1);
    }

    private static void needsAtItsEdges() {
        WristTreaty x = Check.of(FIVE);
        int[] holds = {-2, 100, 60, 39, 30, 30, 30, 30, -2};
        for (int n = 0; n <= 8; n++) {
            CHECK.due("needs(" + n + ")", x.needs(n), holds[n]);
        }
        CHECK.due("needs(-1)", x.needs(-1), -2);
        CHECK.due("the farthest", x.needs(Integer.MIN_VALUE), -2);
        CHECK.due("the farthest", x.needs(Integer.MAX_VALUE), -2);
        x = Check.of(FIRST + clause(30).repeat(7));
        CHECK.due("more than 99", x.needs(1), 210);
        CHECK.due("more than 99", x.needs(2), 120);
        CHECK.due("needs(7)", x.needs(7), 30);
        x = Check.of(FIRST + clause(1));
        CHECK.due("the least hold of all", x.needs(1), 1);
        CHECK.due("or fewer", x.needs(7), 1);
        x = Check.of(FIRST + clause(1).repeat(7));
        CHECK.due("seven in seven", x.needs(7), 1);
        CHECK.due("seven in six", x.needs(6), 2);
    }

    private static void endsAtItsEdges() {
        WristTreaty x = Check.of(FIVE);
        CHECK.due("in the second", x.ends(99), 12);
        CHECK.due("in the fourth", x.ends(30), 36);
        CHECK.due("one takes longer", x.ends(29), -1);
        x.push(0, 1);
        CHECK.due("no meetings", x.ends(99), -1);
        x.push(1, 1);
        CHECK.due("starts as now", x.ends(99), 13);
        x = Check.of(FIRST + clause(1));
        CHECK.due("in the first", x.ends(1), 0);
        x = Check.of("gorge far 20 far 19 odds 0; wind from 0 to 999;" + clause(1).repeat(7));
        CHECK.due("the latest that can be", x.ends(1), 1140 + 6 * 380);
    }

    private static void fullAtItsEdges() {
        WristTreaty x = Check.of(FIVE);
        int[][] due = {{0, 0, 0}, {1, 1, 2}, {8, 1, 2}, {9, 1, 2}, {10, 2, 18}, {30, 2, 18}, {31, 2, 3}, {39, 2, 3},
            {40, 3, 19}, {69, 3, 7}, {70, 4, 23}, {90, 4, 23}, {91, 4, 15}, {99, 4, 15}};
        for (int[] row : due) {
            CHECK.due("full(" + row[0] + ")", x.full(row[0]), row[1]);
            CHECK.due("fulls(" + row[0] + ")", x.fulls(row[0]), row[2]);
        }
        x = Check.of(FIRST + clause(30).repeat(3) + clause(9));
        CHECK.due("99 in 99", x.full(99), 4);
        CHECK.due("99 in 98", x.full(98), 3);
        CHECK.due("which of 98", x.fulls(98), 7);
        x = Check.of(FIRST + clause(1).repeat(7));
        CHECK.due("all seven", x.fulls(7), 127);
        CHECK.due("six of seven", x.fulls(6), 63);
    }

    private static void onceAtItsEdges() {
        WristTreaty x = Check.of(FIVE);
        int[][] due = {{0, 0, 0}, {1, 1, 2}, {9, 1, 2}, {10, 2, 18}, {91, 4, 15}, {99, 4, 15}};
        for (int[] row : due) {
            CHECK.due("once(" + row[0] + ")", x.once(row[0]), row[1]);
            CHECK.due("onces(" + row[0] + ")", x.onces(row[0]), row[2]);
        }
        x = Check.of(FIRST + "clause says 1 takes 1 gives 0; clause says 1 gives 4 takes 4; clause says 1 gives 0 takes 3;");
        CHECK.due("none is worth more", x.once(99), 0);
        CHECK.due("the least set is none", x.onces(99), 0);
        x = Check.of(FIRST + "clause says 2 gives 99 gives 99; clause says 1 gives 99 gives 0; clause says 1 gives 0 gives 99;");
        CHECK.due("the first alone, the least set", x.onces(2), 1);
        CHECK.due("once(2)", x.once(2), 198);
        CHECK.due("once(1)", x.once(1), 99);
        CHECK.due("onces(1)", x.onces(1), 2);
        CHECK.due("once(4)", x.once(4), 396);
        x = Check.of(FIRST + "clause says 1 gives 99 gives 99;".repeat(7));
        CHECK.due("the greatest worth", x.once(7), 1386);
    }

    private static void noClauses() {
        WristTreaty x = Check.of(FIRST);
        for (int hold : new int[] {1, 99}) {
            CHECK.due("least", x.least(hold), 0);
            CHECK.due("order", x.order(hold, 0), -1);
            CHECK.due("ends", x.ends(hold), -1);
            CHECK.due("full", x.full(hold), 0);
            CHECK.due("fulls", x.fulls(hold), 0);
            CHECK.due("once", x.once(hold), 0);
            CHECK.due("onces", x.onces(hold), 0);
        }
        for (int n = 1; n <= 7; n++) {
            CHECK.due("needs", x.needs(n), 0);
        }
        CHECK.due("no such n", x.needs(0), -2);
        CHECK.due("no such n", x.needs(8), -2);
        Check.row(x, 0);
        said(x, 0, 1, 0, -1);
        Check.row(x, 0, 0);
        said(x, 0, 1, -2, -2);
        said(x, 1, 1, -6, -6);
    }
}
