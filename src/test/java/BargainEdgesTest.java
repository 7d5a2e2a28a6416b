import java.util.List;
import java.util.function.ToIntFunction;

/** Terms V, VI and promises 40 to 51, sentence by sentence: every boundary that the document names for what both sign. */
public final class BargainEdgesTest {
    private static final Check CHECK = new Check("BargainEdgesTest");
    private static final String FIRST = "gorge far 4 far 6 odds 2;";
    private static final int[] NO_SIDES = {-1, 2, Integer.MIN_VALUE, Integer.MAX_VALUE};

    public static void main(String[] args) {
        noSuchSet();
        noSuchSide();
        worthOfNothingAtLeast();
        worthBelowNothing();
        leastDealOfSeveral();
        evenAtItsEdges();
        leftOutAtItsEdges();
        bundlesAtTheirEdges();
        firmAtItsEdges();
        restsAtTheirEdges();
        noClauses();
        ofThisGorgeAlone();
        CHECK.finish();
    }

    private static String gives(int side0, int side1) {
        return "clause says 1 " + gift(side0) + " " + gift(side1) + ";";
    }

    private static String gift(int n) {
        return n < 0 ? "takes " + -n : "gives " + n;
    }

    private static void noSuchSet() {
        WristTreaty x = Check.of(FIRST + gives(99, -99).repeat(3));
        for (int set : new int[] {-1, 8, 9, 128, Integer.MIN_VALUE, Integer.MAX_VALUE, 1 << 30}) {
            CHECK.due("worth(" + set + ", 0)", x.worth(set, 0), -1000);
            CHECK.due("worth(" + set + ", 1)", x.worth(set, 1), -1000);
        }
        CHECK.due("the empty set", x.worth(0, 0), 0);
        CHECK.due("all", x.worth(7, 0), 297);
        CHECK.due("all", x.worth(7, 1), -297);
        x = Check.of(FIRST + gives(-99, 99).repeat(7));
        CHECK.due("the least worth", x.worth(127, 0), -693);
        CHECK.due("the greatest worth", x.worth(127, 1), 693);
        CHECK.due("an 8th clause", x.worth(128, 1), -1000);
        CHECK.due("an 8th clause", x.worth(255, 1), -1000);
    }

    private static void noSuchSide() {
        WristTreaty x = Check.of(FIRST + gives(-1, -1));
        for (int side : NO_SIDES) {
            CHECK.due("worth(0, " + side + ")", x.worth(0, side), -1000);
            CHECK.due("worth(1, " + side + ")", x.worth(1, side), -1000);
            CHECK.due("veto(" + side + ")", x.veto(side), -2);
            CHECK.due("must(" + side + ")", x.must(side), -2);
            CHECK.due("musts(" + side + ")", x.musts(side), -2);
        }
    }

    /** Both sign none, 0 with 1, 2, and 0 with 1 and 2: each is worth 0 for both. */
    private static void worthOfNothingAtLeast() {
        WristTreaty x = Check.of(FIRST + gives(3, -1) + gives(-3, 1) + gives(0, 0) + gives(-1, 0));
        CHECK.due("signs()", x.signs(), 4);
        CHECK.due("deal()", x.deal(), 0);
        CHECK.due("even()", x.even(), 0);
        CHECK.due("veto(0), less than 0", x.veto(0), 10);
        CHECK.due("veto(1), less than 0", x.veto(1), 1);
        CHECK.due("must(0)", x.must(0), 1);
        CHECK.due("the least set", x.musts(0), 2);
        CHECK.due("must(1), 0 is enough", x.must(1), 0);
        CHECK.due("musts(1)", x.musts(1), 0);
        CHECK.due("bundles(), 0 is enough", x.bundles(), 1);
        CHECK.due("bundle()", x.bundle(), 1);
    }

    private static void worthBelowNothing() {
        WristTreaty x = Check.of(FIRST + gives(-1, 0));
        CHECK.due("signs()", x.signs(), 1);
        CHECK.due("must(0)", x.must(0), 1);
        CHECK.due("musts(0)", x.musts(0), 1);
        CHECK.due("must(1)", x.must(1), 0);
        x = Check.of(FIRST + gives(0, -1));
        CHECK.due("signs()", x.signs(), 1);
        CHECK.due("must(0)", x.must(0), 0);
        CHECK.due("musts(1)", x.musts(1), 1);
        x = Check.of(FIRST + gives(-9, -9).repeat(7));
        CHECK.due("none but the empty one", x.signs(), 1);
        CHECK.due("two losses make no deal", x.deal(), 0);
        CHECK.due("all are vetoed", x.veto(0), 127);
        CHECK.due("all are left out", x.must(0), 7);
        CHECK.due("all are left out", x.musts(1), 127);
        x = Check.of(FIRST + gives(0, 0).repeat(7));
        CHECK.due("all sets", x.signs(), 128);
        CHECK.due("no veto", x.veto(0), 0);
    }

    private static void leastDealOfSeveral() {
        WristTreaty x = Check.of(FIRST + gives(0, 0) + gives(1, 1) + gives(0, 0));
        CHECK.due("the least of several", x.deal(), 2);
        x = Check.of(FIRST + gives(5, 0) + gives(0, 5));
        CHECK.due("more by both", x.deal(), 3);
        // Worths of 6 and 2, of 4 and 3: one product.
        x = Check.of(FIRST + gives(4, 3) + gives(-98, -98) + gives(6, 2) + gives(-5, -4));
        CHECK.due("10 and 5", x.deal(), 5);
        x = Check.of(FIRST + gives(-99, 3) + gives(99, 3));
        CHECK.due("99 times 3, not 0 times 6", x.deal(), 2);
        x = Check.of(FIRST + gives(99, 99).repeat(7));
        CHECK.due("the greatest", x.deal(), 127);
        x = Check.of(FIRST + gives(-1, 99) + gives(2, 98));
        CHECK.due("2 times 98, less than 1 times 197", x.deal(), 3);
    }

    private static void evenAtItsEdges() {
        CHECK.due("by none", Check.of(FIRST + gives(-1, 99) + gives(-1, -1)).even(), 0);
        CHECK.due("one", Check.of(FIRST + gives(1, 99)).even(), 1);
        CHECK.due("the lesser of side 1", Check.of(FIRST + gives(99, 1)).even(), 1);
        CHECK.due("by all", Check.of(FIRST + gives(99, 99).repeat(7)).even(), 693);
        CHECK.due("by two", Check.of(FIRST + gives(9, -1) + gives(-1, 9) + gives(-9, 9)).even(), 8);
    }

    private static void leftOutAtItsEdges() {
        WristTreaty x = Check.of(FIRST + gives(5, 1) + gives(-3, 1) + gives(-3, -3));
        CHECK.due("one of 1, 5 less 3", x.must(0), 1);
        CHECK.due("the least set of one", x.musts(0), 2);
        CHECK.due("one of side 1", x.must(1), 1);
        CHECK.due("musts(1)", x.musts(1), 4);
        x = Check.of(FIRST + gives(-5, 0) + gives(-1, 0) + gives(3, 0) + gives(2, 0) + gives(-1, 0) + gives(-1, 0));
        CHECK.due("less by three, one is enough", x.must(0), 1);
        CHECK.due("the least set", x.musts(0), 1);
        x = Check.of(FIRST + gives(-1, 0) + gives(-2, 0) + gives(-2, 0) + gives(1, 0));
        CHECK.due("two of three", x.must(0), 2);
        CHECK.due("the least set of two", x.musts(0), 6);
    }

    private static void bundlesAtTheirEdges() {
        WristTreaty x = Check.of(FIRST + gives(0, 0).repeat(5) + gives(1, -1) + gives(-1, 1));
        CHECK.due("one", x.bundles(), 1);
        CHECK.due("the last pair", x.bundle(), 56);
        x = Check.of(FIRST + gives(0, 0) + gives(1, -1));
        CHECK.due("one of them alone", x.bundles(), 0);
        CHECK.due("none", x.bundle(), -1);
        x = Check.of(FIRST + gives(2, -1) + gives(-2, 0));
        CHECK.due("side 1 would not", x.bundles(), 0);
        x = Check.of(FIRST + gives(-1, 2) + gives(0, -2));
        CHECK.due("side 0 would not", x.bundles(), 0);
        x = Check.of(FIRST + gives(1, -1) + gives(-1, 1) + gives(1, -1) + gives(-1, 1) + gives(1, -1) + gives(-1, 1) + gives(1, -1));
        CHECK.due("four with three", x.bundles(), 12);
        CHECK.due("the first", x.bundle(), 1);
        x = Check.of(FIRST + gives(2, -2) + gives(-3, 2) + gives(-1, 1) + gives(-2, 2) + gives(-2, 3));
        CHECK.due("first by the lesser, then the other one", x.bundle(), 3);
        CHECK.due("two", x.bundles(), 2);
        CHECK.due("asked again", x.bundles(), 2);
        CHECK.due("asked again", x.bundle(), 3);
    }

    private static void firmAtItsEdges() {
        CHECK.due("as much for both", Check.of(FIRST + gives(0, 0)).firm(), 2);
        CHECK.due("more for side 0", Check.of(FIRST + gives(1, 0)).firm(), 1);
        CHECK.due("more for side 1", Check.of(FIRST + gives(0, 1)).firm(), 1);
        CHECK.due("less for both", Check.of(FIRST + gives(-1, -1)).firm(), 1);
        CHECK.due("less for side 0", Check.of(FIRST + gives(-1, 0)).firm(), 1);
        CHECK.due("more for one, less for the other one", Check.of(FIRST + gives(1, -1)).firm(), 2);
        CHECK.due("all", Check.of(FIRST + gives(1, -1).repeat(7)).firm(), 128);
        CHECK.due("below 0, too", Check.of(FIRST + gives(9, -1) + gives(1, -9)).firm(), 3);
    }

    private static void restsAtTheirEdges() {
        WristTreaty x = Check.of(FIRST + gives(0, 0) + gives(1, 0) + gives(0, 1) + gives(-1, 0) + gives(0, -1) + gives(1, -1)
                + gives(1, 1));
        int[] free = {4, 3, 3, 3, 3, 2, 2};
        int[] dear = {2, 2, 2, 1, 1, 1, 2};
        for (int clause = 0; clause < 7; clause++) {
            CHECK.due("rests(" + clause + ", 0)", x.rests(clause, 0), free[clause]);
            CHECK.due("rests(" + clause + ", 1)", x.rests(clause, 1), dear[clause]);
            CHECK.due("rests(" + clause + ", 99)", x.rests(clause, 99), dear[clause]);
            for (int cost : new int[] {-1, 100, Integer.MIN_VALUE, Integer.MAX_VALUE}) {
                CHECK.due("rests(" + clause + ", " + cost + ")", x.rests(clause, cost), -2);
            }
        }
        for (int clause : new int[] {-1, 7, Integer.MIN_VALUE, Integer.MAX_VALUE}) {
            CHECK.due("rests(" + clause + ", 0)", x.rests(clause, 0), -2);
        }
        CHECK.due("stands()", x.stands(), 1 + 2 + 4 + 64);
        x = Check.of(FIRST + gives(-1, 1));
        CHECK.due("rests(0, 0)", x.rests(0, 0), 2);
        CHECK.due("rests(1, 0)", x.rests(1, 0), -2);
        CHECK.due("none stands", x.stands(), 0);
    }

    private static void noClauses() {
        WristTreaty x = Check.of(FIRST);
        for (int side = 0; side < 2; side++) {
            CHECK.due("worth(0)", x.worth(0, side), 0);
            CHECK.due("worth(1)", x.worth(1, side), -1000);
            CHECK.due("veto", x.veto(side), 0);
            CHECK.due("must", x.must(side), 0);
            CHECK.due("musts", x.musts(side), 0);
        }
        CHECK.due("signs()", x.signs(), 1);
        CHECK.due("deal()", x.deal(), 0);
        CHECK.due("even()", x.even(), 0);
        CHECK.due("bundles()", x.bundles(), 0);
        CHECK.due("bundle()", x.bundle(), -1);
        CHECK.due("firm()", x.firm(), 1);
        CHECK.due("rests(0, 0)", x.rests(0, 0), -2);
        CHECK.due("stands()", x.stands(), 0);
    }

    /** What an earlier gorge was worth must not be told of a later one, whichever call is the first. */
    private static void ofThisGorgeAlone() {
        List<ToIntFunction<WristTreaty>> calls = List.of(WristTreaty::even, WristTreaty::bundles, WristTreaty::bundle,
                WristTreaty::firm, WristTreaty::deal, WristTreaty::signs, x -> x.once(9), x -> x.full(1));
        int[] due = {2, 0, -1, 2, 1, 4, 5, 1};
        for (int i = 0; i < due.length; i++) {
            WristTreaty x = Check.of(FIRST + gives(9, -1) + gives(-1, 9) + gives(9, 9) + gives(9, 9));
            CHECK.due("signs()", x.signs(), 14);
            CHECK.due("bundle()", x.bundle(), 1);
            Check.read(x, FIRST + gives(2, 3) + gives(-2, -3) + gives(1, -1));
            CHECK.due("call " + i + " of the later one", calls.get(i).applyAsInt(x), due[i]);
        }
    }
}
