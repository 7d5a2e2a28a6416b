/** Promises 30 to 39: clauses cut into meetings, orders, and what is said in one. */
public final class SpeechTest {
    private static final Check CHECK = new Check("SpeechTest");
    private static final String WINDY = "gorge far 4 far 6 odds 2; wind from 0 to 5; wind from 24 to 30;";
    private static final String FOUR = WINDY + "clause says 4 gives 5 takes 2; clause says 5 takes 3 gives 8;"
            + "clause says 6 gives 10 takes 9; clause says 3 takes 1 gives 2;";

    public static void main(String[] args) {
        withoutGorge();
        rowsCut();
        rowsRefused();
        fewest();
        orders();
        needs();
        ends();
        fullest();
        richest();
        withoutClauses();
        CHECK.finish();
    }

    private static void withoutGorge() {
        WristTreaty x = new WristTreaty();
        Check.row(x, 0);
        CHECK.due("cut", x.cut(0, 9), -2);
        CHECK.due("cut of nothing", x.cut(1, 9), -2);
        CHECK.due("waits", x.waits(0, 9), -2);
        CHECK.due("least", x.least(9), -2);
        CHECK.due("order", x.order(9, 0), -2);
        CHECK.due("needs", x.needs(1), -2);
        CHECK.due("ends", x.ends(9), -2);
        CHECK.due("full", x.full(9), -2);
        CHECK.due("fulls", x.fulls(9), -2);
        CHECK.due("once", x.once(9), -2);
        CHECK.due("onces", x.onces(9), -2);
    }

    private static void rowsCut() {
        WristTreaty x = Check.of(FOUR);
        Check.row(x, 0, 0, 1, 2, 3);
        said(x, 10, 2, 2);
        said(x, 9, 2, 2);
        said(x, 8, 4, 1);
        said(x, 6, 4, 1);
        said(x, 5, -1, -1);
        said(x, 15, 2, 3);
        said(x, 17, 2, 3);
        said(x, 18, 1, -1);
        said(x, 99, 1, -1);
        Check.row(x, 0, 3, 3, 3, 3, 3);
        said(x, 6, 3, 2);
        said(x, 3, 5, 1);
        said(x, 2, -1, -1);
        Check.row(x, 0);
        said(x, 1, 0, -1);
        Check.row(x, 0, 3, 3, 2);
        said(x, 4, -1, -1);
        long[] sixty = new long[60];
        Check.row(x, 0, sixty);
        said(x, 4, 60, 1);
        said(x, 99, 3, 24);
        x.row(0, 0, 1);
        x.write(0, 0, 256 + 2);
        said(x, 6, 1, -1);
        said(x, 5, -1, -1);
    }

    private static void said(WristTreaty x, int hold, int meetings, int waiting) {
        CHECK.due("cut(0, " + hold + ")", x.cut(0, hold), meetings);
        CHECK.due("waits(0, " + hold + ")", x.waits(0, hold), waiting);
    }

    private static void rowsRefused() {
        WristTreaty x = Check.of(FOUR);
        Check.row(x, 0, 0, 4);
        said(x, 9, -2, -2);
        said(x, 1, -2, -2);
        Check.row(x, 0, -1, 0);
        said(x, 9, -2, -2);
        Check.row(x, 0, 0, 4294967296L);
        said(x, 9, -2, -2);
        Check.row(x, 0, 0, 1);
        said(x, 0, -2, -2);
        said(x, 100, -2, -2);
        said(x, -1, -2, -2);
        CHECK.due("cut(4, 9)", x.cut(4, 9), -2);
        CHECK.due("cut(-1, 9)", x.cut(-1, 9), -2);
        CHECK.due("cut(1, 9)", x.cut(1, 9), -6);
        CHECK.due("cut(1, 100)", x.cut(1, 100), -2);
        CHECK.due("waits(4, 9)", x.waits(4, 9), -2);
        CHECK.due("waits(3, 9)", x.waits(3, 9), -6);
        CHECK.due("waits(3, 0)", x.waits(3, 0), -2);
    }

    private static void fewest() {
        WristTreaty x = Check.of(FOUR);
        int[][] fewest = {{0, -2}, {5, -1}, {6, 4}, {7, 3}, {8, 3}, {9, 2}, {10, 2}, {17, 2}, {18, 1}, {99, 1},
            {100, -2}, {-1, -2}};
        for (int[] due : fewest) {
            CHECK.due("least(" + due[0] + ")", x.least(due[0]), due[1]);
        }
    }

    private static void orders() {
        WristTreaty x = Check.of(FOUR);
        int[][] orders = {{6, 0, 1, 2, 3}, {7, 0, 3, 1, 2}, {8, 0, 1, 3, 2}, {9, 0, 1, 2, 3}, {10, 0, 1, 2, 3}};
        for (int[] due : orders) {
            for (int i = 0; i < 4; i++) {
                CHECK.due("order(" + due[0] + ", " + i + ")", x.order(due[0], i), due[1 + i]);
            }
        }
        CHECK.due("order(7, 4)", x.order(7, 4), -1);
        CHECK.due("order(7, -1)", x.order(7, -1), -1);
        CHECK.due("order(5, 0)", x.order(5, 0), -1);
        CHECK.due("order(0, 0)", x.order(0, 0), -2);
        CHECK.due("order(100, 9)", x.order(100, 9), -2);
    }

    private static void needs() {
        WristTreaty x = Check.of(FOUR);
        int[] holds = {-2, 18, 9, 7, 6, 6, 6, 6, -2};
        for (int n = 0; n <= 8; n++) {
            CHECK.due("needs(" + n + ")", x.needs(n), holds[n]);
        }
        x = Check.of(WINDY + "clause says 30 gives 0 gives 0;".repeat(7));
        CHECK.due("needs(1) of the longest", x.needs(1), 210);
        CHECK.due("needs(2) of the longest", x.needs(2), 120);
        CHECK.due("needs(7) of the longest", x.needs(7), 30);
    }

    private static void ends() {
        WristTreaty x = Check.of(FOUR);
        int[][] ends = {{18, 12}, {10, 36}, {7, 48}, {6, 60}, {5, -1}, {0, -2}, {100, -2}};
        for (int[] due : ends) {
            CHECK.due("ends(" + due[0] + ")", x.ends(due[0]), due[1]);
        }
        x.push(0, 2);
        CHECK.due("ends(10) by another start", x.ends(10), 18);
        x.push(0, 1);
        CHECK.due("ends(10) without meetings", x.ends(10), -1);
    }

    private static void fullest() {
        WristTreaty x = Check.of(FOUR);
        int[][] fullest = {{0, 0, 0}, {2, 0, 0}, {3, 1, 8}, {4, 1, 1}, {8, 2, 9}, {10, 2, 3}, {12, 3, 11},
            {17, 3, 7}, {18, 4, 15}, {99, 4, 15}, {100, -2, -2}, {-1, -2, -2}};
        for (int[] due : fullest) {
            CHECK.due("full(" + due[0] + ")", x.full(due[0]), due[1]);
            CHECK.due("fulls(" + due[0] + ")", x.fulls(due[0]), due[2]);
        }
    }

    private static void richest() {
        WristTreaty x = Check.of(FOUR);
        int[][] richest = {{0, 0, 0}, {2, 0, 0}, {3, 1, 8}, {4, 3, 1}, {10, 8, 3}, {18, 10, 15}, {99, 10, 15},
            {100, -2, -2}, {-1, -2, -2}};
        for (int[] due : richest) {
            CHECK.due("once(" + due[0] + ")", x.once(due[0]), due[1]);
            CHECK.due("onces(" + due[0] + ")", x.onces(due[0]), due[2]);
        }
        x = Check.of(WINDY + "clause says 1 gives 3 takes 3; clause says 1 gives 1 gives 0; clause says 1 takes 1 gives 0;"
                + "clause says 1 gives 0 gives 1;");
        CHECK.due("once(1) of one worth", x.once(1), 1);
        CHECK.due("onces(1), the least set", x.onces(1), 2);
        CHECK.due("once(9)", x.once(9), 2);
        CHECK.due("onces(9), the least set", x.onces(9), 10);
    }

    private static void withoutClauses() {
        WristTreaty x = Check.of(WINDY);
        CHECK.due("least(1)", x.least(1), 0);
        CHECK.due("order(1, 0)", x.order(1, 0), -1);
        CHECK.due("needs(1)", x.needs(1), 0);
        CHECK.due("needs(8)", x.needs(8), -2);
        CHECK.due("ends(1)", x.ends(1), -1);
        CHECK.due("full(9)", x.full(9), 0);
        CHECK.due("fulls(9)", x.fulls(9), 0);
        CHECK.due("once(9)", x.once(9), 0);
        CHECK.due("onces(9)", x.onces(9), 0);
        Check.row(x, 0);
        CHECK.due("cut(0, 1)", x.cut(0, 1), 0);
        Check.row(x, 0, 0);
        CHECK.due("cut(0, 1)", x.cut(0, 1), -2);
    }
}
