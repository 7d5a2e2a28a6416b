/** Promises 19 to 29: holds, pairs and resin. */
public final class PairsTest {
    private static final Check CHECK = new Check("PairsTest");
    private static final String FOUR = "gorge far 4 far 6 odds 2;"
            + "man on 0 grip 10 wits 2; man on 0 grip 6 wits 5;"
            + "man on 1 grip 8 wits 1; man on 1 grip 12 wits 4; pot 4;";

    public static void main(String[] args) {
        withoutGorge();
        holds();
        bestOnes();
        matches();
        oneAgainstThree();
        oneSideAlone();
        fairness();
        resin();
        CHECK.finish();
    }

    private static void withoutGorge() {
        WristTreaty x = new WristTreaty();
        CHECK.due("hold", x.hold(0, 1), -2);
        CHECK.due("pair", x.pair(), -2);
        CHECK.due("partner", x.partner(0), -2);
        CHECK.due("strong", x.strong(0), -2);
        CHECK.due("weak", x.weak(0), -2);
        CHECK.due("match", x.match(), -2);
        CHECK.due("matched", x.matched(0), -2);
        CHECK.due("loners", x.loners(), -2);
        CHECK.due("fair", x.fair(), -2);
        CHECK.due("resin", x.resin(0, 1, 0), -2);
        CHECK.due("spare", x.spare(0, 1), -2);
    }

    private static void holds() {
        WristTreaty x = Check.of(FOUR);
        CHECK.due("hold(0, 2)", x.hold(0, 2), 9);
        CHECK.due("hold(2, 0)", x.hold(2, 0), 9);
        CHECK.due("hold(0, 3)", x.hold(0, 3), 12);
        CHECK.due("hold(1, 2)", x.hold(1, 2), 7);
        CHECK.due("hold(3, 1)", x.hold(3, 1), 10);
        CHECK.due("hold(0, 1)", x.hold(0, 1), -1);
        CHECK.due("hold(3, 2)", x.hold(3, 2), -1);
        CHECK.due("hold(0, 0)", x.hold(0, 0), -1);
        CHECK.due("hold(0, 4)", x.hold(0, 4), -2);
        CHECK.due("hold(4, 0)", x.hold(4, 0), -2);
        CHECK.due("hold(-1, 2)", x.hold(-1, 2), -2);
        CHECK.due("hold(2, -1)", x.hold(2, -1), -2);
        CHECK.due("hold(4, 4)", x.hold(4, 4), -2);
    }

    private static void bestOnes() {
        WristTreaty x = Check.of(FOUR);
        CHECK.due("pair()", x.pair(), 3);
        CHECK.due("partner(0)", x.partner(0), 3);
        CHECK.due("partner(1)", x.partner(1), 3);
        CHECK.due("partner(2)", x.partner(2), 0);
        CHECK.due("partner(3)", x.partner(3), 0);
        CHECK.due("partner(4)", x.partner(4), -2);
        CHECK.due("partner(-1)", x.partner(-1), -2);
        CHECK.due("strong(0)", x.strong(0), 0);
        CHECK.due("strong(1)", x.strong(1), 3);
        CHECK.due("strong(2)", x.strong(2), -2);
        CHECK.due("strong(-1)", x.strong(-1), -2);
        CHECK.due("weak(0)", x.weak(0), 1);
        CHECK.due("weak(1)", x.weak(1), 2);
        CHECK.due("weak(2)", x.weak(2), -2);
        CHECK.due("weak(-1)", x.weak(-1), -2);
        x = Check.of("gorge far 1 far 1 odds 0; man on 1 grip 5 wits 0; man on 1 grip 5 wits 0;"
                + "man on 0 grip 5 wits 0; man on 0 grip 5 wits 0;");
        CHECK.due("first of several pairs", x.pair(), 20);
        CHECK.due("first of several partners", x.partner(3), 0);
        CHECK.due("first of several partners", x.partner(1), 2);
        CHECK.due("first of several strong", x.strong(0), 2);
        CHECK.due("first of several weak", x.weak(1), 0);
        x.grip(2, 30);
        x.grip(3, 30);
        CHECK.due("the greatest grip alone, weak", x.weak(0), 2);
        for (int man = 0; man < 4; man++) {
            x.grip(man, 1);
        }
        CHECK.due("the least grip alone, strong", x.strong(0), 2);
        CHECK.due("the least hold alone, pair", x.pair(), 20);
        CHECK.due("the least hold alone, partner", x.partner(3), 0);
        CHECK.due("the least hold alone, fair", x.fair(), 1);
        CHECK.due("first of several ways", x.matched(2), 0);
        CHECK.due("first of several ways", x.matched(1), 3);
    }

    private static void matches() {
        WristTreaty x = Check.of(FOUR);
        // 0 with 2 and 1 with 3 hold 9 and 10, 0 with 3 and 1 with 2 hold 12 and 7.
        CHECK.due("match()", x.match(), 19);
        CHECK.due("matched(0)", x.matched(0), 2);
        CHECK.due("matched(1)", x.matched(1), 3);
        CHECK.due("matched(2)", x.matched(2), 0);
        CHECK.due("matched(3)", x.matched(3), 1);
        CHECK.due("matched(4)", x.matched(4), -2);
        CHECK.due("matched(-1)", x.matched(-1), -2);
        CHECK.due("loners()", x.loners(), 0);
        CHECK.due("fair()", x.fair(), 9);
        x.grip(0, 11);
        CHECK.due("match() by another grip", x.match(), 20);
        CHECK.due("matched(0) by another grip", x.matched(0), 3);
        CHECK.due("matched(2) by another grip", x.matched(2), 1);
        CHECK.due("fair() by another grip", x.fair(), 9);
    }

    private static void oneAgainstThree() {
        WristTreaty x = Check.of("gorge far 1 far 1 odds 0; man on 0 grip 3 wits 0; man on 1 grip 5 wits 0;"
                + "man on 0 grip 5 wits 9; man on 0 grip 5 wits 1;");
        CHECK.due("pair()", x.pair(), 21);
        CHECK.due("partner(1)", x.partner(1), 2);
        CHECK.due("match()", x.match(), 5);
        CHECK.due("matched(0)", x.matched(0), -1);
        CHECK.due("matched(1)", x.matched(1), 2);
        CHECK.due("matched(2)", x.matched(2), 1);
        CHECK.due("matched(3)", x.matched(3), -1);
        CHECK.due("loners()", x.loners(), 9);
        CHECK.due("fair()", x.fair(), 5);
    }

    private static void oneSideAlone() {
        WristTreaty x = Check.of("gorge far 1 far 1 odds 0; man on 1 grip 3 wits 0; man on 1 grip 5 wits 0;");
        CHECK.due("pair()", x.pair(), -1);
        CHECK.due("partner(0)", x.partner(0), -1);
        CHECK.due("strong(0)", x.strong(0), -1);
        CHECK.due("weak(0)", x.weak(0), -1);
        CHECK.due("strong(1)", x.strong(1), 1);
        CHECK.due("match()", x.match(), 0);
        CHECK.due("matched(1)", x.matched(1), -1);
        CHECK.due("loners()", x.loners(), 3);
        CHECK.due("fair()", x.fair(), 0);
        x = Check.of("gorge far 1 far 1 odds 0;");
        CHECK.due("nobody's pair()", x.pair(), -1);
        CHECK.due("nobody's match()", x.match(), 0);
        CHECK.due("nobody's loners()", x.loners(), 0);
        CHECK.due("nobody's fair()", x.fair(), 0);
        CHECK.due("nobody strong", x.strong(1), -1);
        CHECK.due("nobody weak", x.weak(1), -1);
    }

    private static void fairness() {
        // Wits make 0 and 2 the great pair; the fair way parts them.
        WristTreaty x = Check.of("gorge far 1 far 1 odds 0; man on 0 grip 20 wits 9; man on 0 grip 20 wits 0;"
                + "man on 1 grip 20 wits 9; man on 1 grip 2 wits 9;");
        CHECK.due("match()", x.match(), 31);
        CHECK.due("matched(0)", x.matched(0), 2);
        CHECK.due("fair()", x.fair(), 11);
    }

    private static void resin() {
        WristTreaty x = Check.of(FOUR);
        int[] greatest = {9, 11, 11, 13, 13};
        for (int n = 0; n <= 4; n++) {
            CHECK.due("resin(0, 2, " + n + ")", x.resin(0, 2, n), greatest[n]);
            CHECK.due("resin(2, 0, " + n + ")", x.resin(2, 0, n), greatest[n]);
        }
        CHECK.due("resin(0, 2, 5)", x.resin(0, 2, 5), -2);
        CHECK.due("resin(0, 2, -1)", x.resin(0, 2, -1), -2);
        CHECK.due("resin(0, 1, 4)", x.resin(0, 1, 4), -1);
        CHECK.due("resin(0, 1, 5)", x.resin(0, 1, 5), -2);
        CHECK.due("resin(0, 4, 1)", x.resin(0, 4, 1), -2);
        CHECK.due("resin(1, 3, 4)", x.resin(1, 3, 4), 16);
        CHECK.due("resin(1, 3, 2)", x.resin(1, 3, 2), 14);
        CHECK.due("spare(0, 2)", x.spare(0, 2), 3);
        CHECK.due("spare(3, 1)", x.spare(3, 1), 3);
        CHECK.due("spare(0, 1)", x.spare(0, 1), -1);
        CHECK.due("spare(0, 4)", x.spare(0, 4), -2);
        CHECK.due("spare(-1, 2)", x.spare(-1, 2), -2);
        CHECK.due("the pot stays", x.count(3), 4);
        x = Check.of("gorge far 1 far 1 odds 0; man on 0 grip 30 wits 0; man on 1 grip 29 wits 0;");
        CHECK.due("no pot, resin(0, 1, 0)", x.resin(0, 1, 0), 29);
        CHECK.due("no pot, resin(0, 1, 1)", x.resin(0, 1, 1), -2);
        CHECK.due("no pot, spare(0, 1)", x.spare(0, 1), 0);
        x = Check.of("gorge far 1 far 1 odds 0; man on 0 grip 30 wits 0; man on 1 grip 29 wits 0; pot 20;");
        CHECK.due("beyond 30", x.resin(0, 1, 20), 49);
        CHECK.due("beyond 30, spare", x.spare(0, 1), 20);
    }
}
