import java.util.List;
import java.util.function.ToIntFunction;

/** Terms III and promises 19 to 29, sentence by sentence: every boundary that the document names for holds and pairs. */
public final class PairsEdgesTest {
    private static final Check CHECK = new Check("PairsEdgesTest");
    private static final int[] FAR_OFF = {-1, Integer.MIN_VALUE, Integer.MAX_VALUE};
    private static final String FIRST = "gorge far 4 far 6 odds 2;";

    public static void main(String[] args) {
        lesserOfBoth();
        noSuchMen();
        ofOneSide();
        nobody();
        oneSideAlone();
        firstOfSeveral();
        eightMen();
        sevenAgainstOne();
        oneAgainstTwo();
        noneIfOnlyWithout();
        leastPartnerStillSo();
        asManyAsCan();
        resinAtItsEdges();
        spareAtItsEdges();
        ofThisGorgeAlone();
        CHECK.finish();
    }

    private static String man(int side, int grip, int wits) {
        return "man on " + side + " grip " + grip + " wits " + wits + ";";
    }

    private static void lesserOfBoth() {
        WristTreaty x = Check.of(FIRST + man(0, 1, 0) + man(1, 30, 9) + man(0, 30, 9) + man(1, 1, 9) + man(1, 30, 0));
        CHECK.due("the least hold", x.hold(0, 1), 1);
        CHECK.due("the greatest hold", x.hold(2, 1), 39);
        CHECK.due("the lesser grip", x.hold(2, 3), 10);
        CHECK.due("the lesser wits", x.hold(2, 4), 30);
        CHECK.due("either one first", x.hold(4, 2), 30);
        CHECK.due("either one first", x.hold(3, 2), 10);
    }

    private static void noSuchMen() {
        WristTreaty x = Check.of(FIRST + man(0, 5, 5) + man(1, 5, 5) + "pot 3;");
        int[] beyond = {-1, 2, 8, Integer.MIN_VALUE, Integer.MAX_VALUE};
        for (int no : beyond) {
            CHECK.due("hold(0, " + no + ")", x.hold(0, no), -2);
            CHECK.due("hold(" + no + ", 0)", x.hold(no, 0), -2);
            CHECK.due("hold(" + no + ", " + no + ")", x.hold(no, no), -2);
            CHECK.due("partner(" + no + ")", x.partner(no), -2);
            CHECK.due("matched(" + no + ")", x.matched(no), -2);
            CHECK.due("resin(0, " + no + ", 0)", x.resin(0, no, 0), -2);
            CHECK.due("resin(" + no + ", 1, 0)", x.resin(no, 1, 0), -2);
            CHECK.due("spare(0, " + no + ")", x.spare(0, no), -2);
            CHECK.due("spare(" + no + ", 1)", x.spare(no, 1), -2);
        }
        for (int no : new int[] {-1, 2, Integer.MIN_VALUE, Integer.MAX_VALUE}) {
            CHECK.due("strong(" + no + ")", x.strong(no), -2);
            CHECK.due("weak(" + no + ")", x.weak(no), -2);
        }
    }

    private static void ofOneSide() {
        WristTreaty x = Check.of(FIRST + man(0, 5, 5) + man(0, 5, 5) + man(1, 5, 5) + man(1, 5, 5) + "pot 3;");
        int[][] pairs = {{0, 1}, {1, 0}, {2, 3}, {3, 2}, {0, 0}, {3, 3}};
        for (int[] pair : pairs) {
            String both = "(" + pair[0] + ", " + pair[1] + ")";
            CHECK.due("hold" + both, x.hold(pair[0], pair[1]), -1);
            CHECK.due("resin" + both, x.resin(pair[0], pair[1], 3), -1);
            CHECK.due("spare" + both, x.spare(pair[0], pair[1]), -1);
        }
        CHECK.due("no such n", x.resin(0, 1, 4), -2);
    }

    private static void nobody() {
        WristTreaty x = Check.of(FIRST);
        CHECK.due("pair()", x.pair(), -1);
        CHECK.due("partner(0)", x.partner(0), -2);
        for (int side = 0; side < 2; side++) {
            CHECK.due("strong", x.strong(side), -1);
            CHECK.due("weak", x.weak(side), -1);
        }
        CHECK.due("match()", x.match(), 0);
        CHECK.due("matched(0)", x.matched(0), -2);
        CHECK.due("loners()", x.loners(), 0);
        CHECK.due("fair()", x.fair(), 0);
    }

    private static void oneSideAlone() {
        for (int side = 0; side < 2; side++) {
            WristTreaty x = Check.of(FIRST + man(side, 9, 1).repeat(8));
            CHECK.due("pair()", x.pair(), -1);
            CHECK.due("partner(0)", x.partner(0), -1);
            CHECK.due("partner(7)", x.partner(7), -1);
            CHECK.due("strong", x.strong(side), 0);
            CHECK.due("weak", x.weak(side), 0);
            CHECK.due("strong of the other one", x.strong(1 - side), -1);
            CHECK.due("weak of the other one", x.weak(1 - side), -1);
            CHECK.due("match()", x.match(), 0);
            CHECK.due("matched(7)", x.matched(7), -1);
            CHECK.due("loners()", x.loners(), 255);
            CHECK.due("fair()", x.fair(), 0);
        }
    }

    private static void firstOfSeveral() {
        WristTreaty x = Check.of(FIRST + man(1, 4, 0) + man(1, 6, 0) + man(1, 6, 0) + man(0, 4, 0) + man(0, 6, 0) + man(0, 6, 0));
        CHECK.due("pair()", x.pair(), 41);
        CHECK.due("partner(4)", x.partner(4), 1);
        CHECK.due("partner(3)", x.partner(3), 0);
        CHECK.due("partner(2)", x.partner(2), 4);
        CHECK.due("partner(0)", x.partner(0), 3);
        CHECK.due("strong(0)", x.strong(0), 4);
        CHECK.due("strong(1)", x.strong(1), 1);
        x.grip(5, 4);
        x.grip(2, 4);
        CHECK.due("weak(0)", x.weak(0), 3);
        CHECK.due("weak(1)", x.weak(1), 0);
        x.grip(3, 5);
        CHECK.due("weak(0)", x.weak(0), 5);
        for (int man = 0; man < 6; man++) {
            x.grip(man, 30);
        }
        CHECK.due("weak of the strongest", x.weak(0), 3);
        for (int man = 0; man < 6; man++) {
            x.grip(man, 1);
        }
        CHECK.due("strong of the weakest", x.strong(1), 0);
        CHECK.due("pair of the weakest", x.pair(), 30);
        CHECK.due("partner of the weakest", x.partner(5), 0);
    }

    private static void eightMen() {
        WristTreaty x = Check.of(FIRST + man(0, 5, 0).repeat(4) + man(1, 5, 0).repeat(4));
        CHECK.due("pair()", x.pair(), 4);
        CHECK.due("match()", x.match(), 20);
        for (int man = 0; man < 8; man++) {
            CHECK.due("matched(" + man + ")", x.matched(man), man < 4 ? man + 4 : man - 4);
        }
        CHECK.due("loners()", x.loners(), 0);
        CHECK.due("fair()", x.fair(), 5);
        x = Check.of(FIRST + (man(1, 30, 9) + man(0, 30, 9)).repeat(4));
        CHECK.due("the greatest sum", x.match(), 156);
        CHECK.due("matched(7)", x.matched(7), 6);
        CHECK.due("the greatest least", x.fair(), 39);
    }

    private static void sevenAgainstOne() {
        WristTreaty x = Check.of(FIRST + man(1, 3, 1).repeat(7) + man(0, 9, 9));
        CHECK.due("pair()", x.pair(), 70);
        CHECK.due("matched(7)", x.matched(7), 0);
        CHECK.due("matched(1)", x.matched(1), -1);
        CHECK.due("loners()", x.loners(), 126);
        x.grip(6, 4);
        CHECK.due("pair()", x.pair(), 76);
        CHECK.due("partner(7)", x.partner(7), 6);
        CHECK.due("match()", x.match(), 5);
        CHECK.due("matched(7)", x.matched(7), 6);
        CHECK.due("matched(6)", x.matched(6), 7);
        CHECK.due("matched(0)", x.matched(0), -1);
        CHECK.due("loners()", x.loners(), 63);
        CHECK.due("fair()", x.fair(), 5);
    }

    private static void oneAgainstTwo() {
        WristTreaty x = Check.of(FIRST + man(0, 5, 0) + man(1, 5, 0) + man(1, 5, 0));
        CHECK.due("match()", x.match(), 5);
        CHECK.due("matched(0)", x.matched(0), 1);
        CHECK.due("matched(1)", x.matched(1), 0);
        CHECK.due("matched(2)", x.matched(2), -1);
        CHECK.due("loners()", x.loners(), 4);
        x.grip(2, 6);
        x.grip(0, 6);
        CHECK.due("matched(0)", x.matched(0), 2);
        CHECK.due("matched(1)", x.matched(1), -1);
        CHECK.due("loners()", x.loners(), 2);
    }

    private static void noneIfOnlyWithout() {
        WristTreaty x = Check.of(FIRST + man(0, 5, 0) + man(0, 6, 0) + man(1, 6, 0));
        CHECK.due("matched(0)", x.matched(0), -1);
        CHECK.due("matched(1)", x.matched(1), 2);
        CHECK.due("loners()", x.loners(), 1);
        x.grip(1, 5);
        CHECK.due("the first one goes, if it is so with him", x.matched(0), 2);
        CHECK.due("matched(1)", x.matched(1), -1);
        CHECK.due("loners()", x.loners(), 2);
    }

    private static void leastPartnerStillSo() {
        // All ways hold 10 but 0 with 2, where the wits count, too.
        WristTreaty x = Check.of(FIRST + man(0, 5, 1) + man(0, 5, 0) + man(1, 5, 1) + man(1, 5, 0));
        CHECK.due("match()", x.match(), 11);
        CHECK.due("matched(0)", x.matched(0), 2);
        CHECK.due("matched(1)", x.matched(1), 3);
        x = Check.of(FIRST + man(0, 5, 1) + man(0, 5, 0) + man(1, 5, 0) + man(1, 5, 1));
        CHECK.due("match()", x.match(), 11);
        CHECK.due("the least one is not so", x.matched(0), 3);
        CHECK.due("matched(2)", x.matched(2), 1);
    }

    private static void asManyAsCan() {
        WristTreaty x = Check.of(FIRST + man(0, 1, 0) + man(0, 30, 0) + man(1, 30, 0) + man(1, 30, 0));
        CHECK.due("the weak one goes, too", x.fair(), 1);
        x = Check.of(FIRST + man(0, 1, 0) + man(0, 30, 0) + man(1, 30, 0));
        CHECK.due("the weak one stays", x.fair(), 30);
        x = Check.of(FIRST + man(1, 1, 0) + man(1, 30, 0) + man(0, 29, 0));
        CHECK.due("the weak one of side 1 stays", x.fair(), 29);
        CHECK.due("asked again", x.fair(), 29);
        Check.read(x, FIRST + man(1, 1, 0));
        CHECK.due("none of the gorge that was", x.fair(), 0);
    }

    private static void resinAtItsEdges() {
        WristTreaty x = Check.of(FIRST + man(0, 5, 3) + man(1, 5, 2) + "pot 20;");
        for (int no : new int[] {-1, 21, Integer.MIN_VALUE, Integer.MAX_VALUE}) {
            CHECK.due("resin(0, 1, " + no + ")", x.resin(0, 1, no), -2);
        }
        int[] given = {0, 1, 2, 20};
        int[] alike = {7, 7, 9, 27};
        for (int i = 0; i < given.length; i++) {
            CHECK.due("of one grip, " + given[i], x.resin(0, 1, given[i]), alike[i]);
            CHECK.due("of one grip, " + given[i], x.resin(1, 0, given[i]), alike[i]);
        }
        x = Check.of(FIRST + man(0, 1, 0) + man(1, 30, 0) + "pot 20;");
        int[] poured = {0, 1, 14, 15, 16, 17, 20};
        int[] unlike = {1, 3, 29, 30, 31, 32, 35};
        for (int i = 0; i < poured.length; i++) {
            CHECK.due("all to the weak one, then to both, " + poured[i], x.resin(0, 1, poured[i]), unlike[i]);
            CHECK.due("all to the weak one, then to both, " + poured[i], x.resin(1, 0, poured[i]), unlike[i]);
        }
        x = Check.of(FIRST + man(0, 1, 0) + man(1, 30, 0));
        CHECK.due("an empty pot, 0", x.resin(0, 1, 0), 1);
        CHECK.due("an empty pot, 1", x.resin(0, 1, 1), -2);
        for (int no : FAR_OFF) {
            CHECK.due("an empty pot, " + no, x.resin(0, 1, no), -2);
        }
    }

    private static void spareAtItsEdges() {
        CHECK.due("an empty pot", Check.of(FIRST + man(0, 5, 3) + man(1, 5, 2)).spare(0, 1), 0);
        CHECK.due("one helps nobody", Check.of(FIRST + man(0, 5, 3) + man(1, 5, 2) + "pot 1;").spare(0, 1), 0);
        CHECK.due("all of two", Check.of(FIRST + man(0, 5, 3) + man(1, 5, 2) + "pot 2;").spare(0, 1), 2);
        CHECK.due("two of three", Check.of(FIRST + man(0, 5, 3) + man(1, 5, 2) + "pot 3;").spare(1, 0), 2);
        CHECK.due("all of one", Check.of(FIRST + man(0, 5, 3) + man(1, 9, 2) + "pot 1;").spare(0, 1), 1);
        CHECK.due("all of 20", Check.of(FIRST + man(0, 5, 3) + man(1, 5, 2) + "pot 20;").spare(0, 1), 20);
    }

    /** Who went with whom in an earlier gorge must not be told of a later one, whichever call is the first. */
    private static void ofThisGorgeAlone() {
        List<ToIntFunction<WristTreaty>> calls = List.of(WristTreaty::match, x -> x.matched(2), WristTreaty::loners,
                WristTreaty::fair, WristTreaty::pair, x -> x.strong(1));
        int[] due = {5, 0, 2, 5, 2, 2};
        for (int i = 0; i < due.length; i++) {
            WristTreaty x = Check.of(FIRST + man(0, 9, 0).repeat(3) + man(1, 9, 0).repeat(3));
            CHECK.due("match()", x.match(), 27);
            Check.read(x, FIRST + man(0, 5, 0) + man(0, 4, 0) + man(1, 5, 0));
            CHECK.due("call " + i + " of the later one", calls.get(i).applyAsInt(x), due[i]);
        }
    }
}
