/** Promises 40 to 51: worths, what both would sign, bundles, offers at rest. */
public final class BargainTest {
    private static final Check CHECK = new Check("BargainTest");
    private static final String FIRST = "gorge far 4 far 6 odds 2;";
    private static final String FOUR = FIRST + "clause says 4 gives 5 takes 2; clause says 5 takes 3 gives 8;"
            + "clause says 6 gives 10 takes 9; clause says 3 takes 1 gives 2;";

    public static void main(String[] args) {
        withoutGorge();
        worths();
        signed();
        leftOut();
        bundles();
        firm();
        rests();
        withoutClauses();
        CHECK.finish();
    }

    private static void withoutGorge() {
        WristTreaty x = new WristTreaty();
        CHECK.due("worth", x.worth(0, 0), -1000);
        CHECK.due("signs", x.signs(), -2);
        CHECK.due("deal", x.deal(), -2);
        CHECK.due("even", x.even(), -2);
        CHECK.due("veto", x.veto(0), -2);
        CHECK.due("must", x.must(0), -2);
        CHECK.due("musts", x.musts(0), -2);
        CHECK.due("bundles", x.bundles(), -2);
        CHECK.due("bundle", x.bundle(), -2);
        CHECK.due("firm", x.firm(), -2);
        CHECK.due("rests", x.rests(0, 0), -2);
        CHECK.due("stands", x.stands(), -2);
    }

    private static void worths() {
        WristTreaty x = Check.of(FOUR);
        CHECK.due("worth(0, 0)", x.worth(0, 0), 0);
        CHECK.due("worth(3, 0)", x.worth(3, 0), 2);
        CHECK.due("worth(3, 1)", x.worth(3, 1), 6);
        CHECK.due("worth(15, 0)", x.worth(15, 0), 11);
        CHECK.due("worth(15, 1)", x.worth(15, 1), -1);
        CHECK.due("worth(8, 0)", x.worth(8, 0), -1);
        CHECK.due("worth(16, 0)", x.worth(16, 0), -1000);
        CHECK.due("worth(-1, 0)", x.worth(-1, 0), -1000);
        CHECK.due("worth(0, 2)", x.worth(0, 2), -1000);
        CHECK.due("worth(0, -1)", x.worth(0, -1), -1000);
        x = Check.of(FIRST + "clause says 30 takes 99 gives 99;".repeat(7));
        CHECK.due("worth(127, 0)", x.worth(127, 0), -693);
        CHECK.due("worth(127, 1)", x.worth(127, 1), 693);
        CHECK.due("worth(128, 1)", x.worth(128, 1), -1000);
    }

    private static void signed() {
        WristTreaty x = Check.of(FOUR);
        // Both sign none, 0 and 1 (2, 6), 0 and 3 (4, 0), 0, 1 and 3 (1, 8), 1, 2 and 3 (6, 1).
        CHECK.due("signs()", x.signs(), 5);
        CHECK.due("deal()", x.deal(), 3);
        CHECK.due("even()", x.even(), 2);
        CHECK.due("veto(0)", x.veto(0), 10);
        CHECK.due("veto(1)", x.veto(1), 5);
        CHECK.due("veto(2)", x.veto(2), -2);
        CHECK.due("veto(-1)", x.veto(-1), -2);
        x = Check.of(FIRST + "clause says 1 takes 9 takes 9; clause says 1 takes 8 takes 8;");
        CHECK.due("no product of two losses", x.deal(), 0);
        CHECK.due("signs()", x.signs(), 1);
        CHECK.due("even() by nothing", x.even(), 0);
        x = Check.of(FIRST + "clause says 1 gives 0 gives 0; clause says 1 gives 2 gives 3; clause says 1 gives 0 gives 0;");
        CHECK.due("the least of several", x.deal(), 2);
        CHECK.due("signs() of all", x.signs(), 8);
        CHECK.due("even()", x.even(), 2);
        x = Check.of(FIRST + "clause says 1 gives 9 gives 0; clause says 1 takes 1 gives 0;");
        CHECK.due("deal() of no product", x.deal(), 0);
    }

    private static void leftOut() {
        WristTreaty x = Check.of(FOUR);
        CHECK.due("must(0)", x.must(0), 0);
        CHECK.due("musts(0)", x.musts(0), 0);
        CHECK.due("must(1)", x.must(1), 1);
        CHECK.due("musts(1)", x.musts(1), 1);
        CHECK.due("must(2)", x.must(2), -2);
        CHECK.due("must(-1)", x.must(-1), -2);
        CHECK.due("musts(2)", x.musts(2), -2);
        CHECK.due("musts(-1)", x.musts(-1), -2);
        x = Check.of(FIRST + "clause says 1 takes 1 gives 0; clause says 1 takes 5 gives 0; clause says 1 takes 5 gives 0;"
                + "clause says 1 gives 5 takes 1;");
        CHECK.due("two to leave out", x.must(0), 2);
        CHECK.due("the least set", x.musts(0), 3);
        CHECK.due("one to leave out", x.musts(1), 8);
        x = Check.of(FIRST + "clause says 1 takes 1 takes 1; clause says 1 takes 5 gives 0;");
        CHECK.due("all to leave out", x.must(0), 2);
        CHECK.due("all to leave out", x.musts(0), 3);
        CHECK.due("must(1)", x.must(1), 1);
    }

    private static void bundles() {
        WristTreaty x = Check.of(FOUR);
        CHECK.due("bundles()", x.bundles(), 2);
        CHECK.due("bundle()", x.bundle(), 1);
        x = Check.of(FIRST + "clause says 1 gives 1 gives 1; clause says 1 gives 4 takes 1; clause says 1 gives 0 takes 9;"
                + "clause says 1 takes 4 gives 1; clause says 1 takes 4 gives 0;");
        // 0 is signed alone; 1 and 3 make up for each other, 1 and 4 do not.
        CHECK.due("bundles()", x.bundles(), 1);
        CHECK.due("bundle()", x.bundle(), 13);
        x = Check.of(FIRST + "clause says 1 gives 1 gives 1; clause says 1 gives 0 takes 1;");
        CHECK.due("one is signed alone", x.bundles(), 0);
        CHECK.due("no bundle()", x.bundle(), -1);
    }

    private static void firm() {
        WristTreaty x = Check.of(FOUR);
        CHECK.due("firm()", x.firm(), 8);
        x = Check.of(FIRST + "clause says 1 gives 0 gives 0; clause says 1 gives 2 gives 3;");
        CHECK.due("sets of one worth", x.firm(), 2);
        x = Check.of(FIRST + "clause says 1 gives 1 takes 1;".repeat(7));
        CHECK.due("all firm()", x.firm(), 128);
        x = Check.of(FIRST + "clause says 1 gives 0 gives 1; clause says 1 gives 1 gives 0;");
        CHECK.due("more for one side is enough", x.firm(), 1);
    }

    private static void rests() {
        WristTreaty x = Check.of(FIRST + "clause says 1 gives 5 takes 2; clause says 1 gives 1 gives 1;"
                + "clause says 1 gives 0 gives 0; clause says 1 takes 1 takes 1; clause says 1 takes 3 gives 0;");
        int[][] rests = {{2, 1, 1}, {2, 2, 2}, {4, 2, 2}, {3, 1, 1}, {3, 1, 1}};
        for (int clause = 0; clause < 5; clause++) {
            CHECK.due("rests(" + clause + ", 0)", x.rests(clause, 0), rests[clause][0]);
            CHECK.due("rests(" + clause + ", 1)", x.rests(clause, 1), rests[clause][1]);
            CHECK.due("rests(" + clause + ", 99)", x.rests(clause, 99), rests[clause][2]);
        }
        CHECK.due("rests(0, 100)", x.rests(0, 100), -2);
        CHECK.due("rests(0, -1)", x.rests(0, -1), -2);
        CHECK.due("rests(5, 0)", x.rests(5, 0), -2);
        CHECK.due("rests(-1, 0)", x.rests(-1, 0), -2);
        CHECK.due("stands()", x.stands(), 6);
    }

    private static void withoutClauses() {
        WristTreaty x = Check.of(FIRST);
        CHECK.due("worth(0, 1)", x.worth(0, 1), 0);
        CHECK.due("worth(1, 1)", x.worth(1, 1), -1000);
        CHECK.due("signs()", x.signs(), 1);
        CHECK.due("deal()", x.deal(), 0);
        CHECK.due("even()", x.even(), 0);
        CHECK.due("veto(0)", x.veto(0), 0);
        CHECK.due("must(0)", x.must(0), 0);
        CHECK.due("musts(1)", x.musts(1), 0);
        CHECK.due("bundles()", x.bundles(), 0);
        CHECK.due("bundle()", x.bundle(), -1);
        CHECK.due("firm()", x.firm(), 1);
        CHECK.due("stands()", x.stands(), 0);
    }
}
