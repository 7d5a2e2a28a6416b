/** Promises 59 to 65 and 68 to 71, sentence by sentence: every boundary that the document names for an evening's acts. */
public final class EveningEdgesTest {
    private static final Check CHECK = new Check("EveningEdgesTest");
    private static final int[] FAR_OFF = {-1, 4, 8, Integer.MIN_VALUE, Integer.MAX_VALUE};
    // Holds: 0 with 2 and 1 with 3 9, the others less.
    private static final String WHOLE = "gorge far 4 far 6 odds 2;"
            + "man on 0 grip 9 wits 0; man on 0 grip 8 wits 1; man on 1 grip 9 wits 0; man on 1 grip 8 wits 1;"
            + "clause says 4 gives 5 takes 2; clause says 5 takes 3 gives 8; clause says 6 gives 1 gives 1; clause says 9 takes 9 gives 0;";

    public static void main(String[] args) {
        pushAtItsEdges();
        swingAtItsEdges();
        swingToBeat10000();
        swingFromBeat0On();
        signAtItsEdges();
        dropAtItsEdges();
        nowAtItsEdges();
        undoAtItsEdges();
        anewAtItsEdges();
        sixtyActs();
        gripAtItsEdges();
        countAtItsEdges();
        imagesAtTheirEdges();
        imagesKeepAllActs();
        imagesStayAsTheyWere();
        CHECK.finish();
    }

    private static void now(WristTreaty x, int... due) {
        for (int what = 0; what < due.length; what++) {
            CHECK.due("now(" + what + ")", x.now(what), due[what]);
        }
    }

    private static void pushAtItsEdges() {
        WristTreaty x = Check.of(WHOLE);
        for (int no : new int[] {-1, 20, Integer.MIN_VALUE, Integer.MAX_VALUE}) {
            CHECK.due("push(0, " + no + ")", x.push(0, no), -2);
            CHECK.due("push(1, " + no + ")", x.push(1, no), -2);
        }
        for (int no : new int[] {-1, 2, Integer.MIN_VALUE, Integer.MAX_VALUE}) {
            CHECK.due("push(" + no + ", 0)", x.push(no, 0), -2);
        }
        CHECK.due("no act", x.count(7), 0);
        CHECK.due("push(0, 0)", x.push(0, 0), 0);
        CHECK.due("an act, though nothing moved", x.count(7), 1);
        CHECK.due("push(0, 3)", x.push(0, 3), 3);
        CHECK.due("push(0, 19), round", x.push(0, 19), 2);
        CHECK.due("push(1, 19), round", x.push(1, 19), 1);
        CHECK.due("push(1, 5), to 0", x.push(1, 5), 0);
        CHECK.due("push(0, 2), to 0", x.push(0, 2), 0);
        CHECK.due("swing", x.swing(0, 2), 0);
        CHECK.due("they hold", x.push(0, 1), -5);
        CHECK.due("they hold", x.push(1, 0), -5);
        CHECK.due("they hold, no such side", x.push(2, 0), -2);
        CHECK.due("they hold, no such n", x.push(0, 20), -2);
        CHECK.due("start(0)", x.start(0), 0);
        x.drop();
        CHECK.due("they hold no more", x.push(0, 1), 1);
    }

    private static void swingAtItsEdges() {
        WristTreaty x = Check.of(WHOLE);
        for (int no : FAR_OFF) {
            CHECK.due("swing(0, " + no + ")", x.swing(0, no), -2);
            CHECK.due("swing(" + no + ", 2)", x.swing(no, 2), -2);
        }
        int[][] ofOneSide = {{0, 1}, {1, 0}, {2, 3}, {3, 2}, {0, 0}, {2, 2}};
        for (int[] pair : ofOneSide) {
            CHECK.due("of one side", x.swing(pair[0], pair[1]), -2);
        }
        CHECK.due("no act", x.count(7), 0);
        now(x, -1, -1, 0, 0, 0, 0);
        CHECK.due("either one first", x.swing(3, 1), 0);
        now(x, 0, 9, 0, 0, 0, 1);
        CHECK.due("they hold already", x.swing(0, 2), -5);
        CHECK.due("they hold already, no such man", x.swing(0, 4), -2);
        CHECK.due("they hold already, of one side", x.swing(0, 1), -2);
        now(x, 0, 9, 0, 0, 0, 1);
        x.drop();
        x.push(0, 1);
        CHECK.due("they never meet", x.swing(0, 2), -5);
        CHECK.due("they never meet, no such man", x.swing(0, 4), -2);
        CHECK.due("no act", x.count(7), 3);
        now(x, 0, -1, 0, 0, 0, 1);
        x.push(0, 3);
        CHECK.due("behind the one of now", x.swing(0, 2), 12);
    }

    private static int[] swingsAndDrops(WristTreaty x, int n) {
        int[] beats = new int[n];
        for (int i = 0; i < n; i++) {
            beats[i] = x.swing(0, 1);
            x.drop();
        }
        return beats;
    }

    private static void swingToBeat10000() {
        String far = "gorge far 20 far 19 odds 0; man on 0 grip 1 wits 0; man on 1 grip 1 wits 0;";
        WristTreaty x = Check.of(far);
        int[] beats = swingsAndDrops(x, 28);
        CHECK.due("the 27th", beats[26], 9880);
        CHECK.due("none to beat 10,000", beats[27], -5);
        CHECK.due("acts", x.count(7), 54);
        CHECK.due("meetings", x.now(5), 27);
        CHECK.due("the latest one stays", x.now(0), 9880);
        x = Check.of(far);
        x.push(1, 6);
        beats = swingsAndDrops(x, 28);
        CHECK.due("the first in 120", beats[0], 120);
        CHECK.due("beat 10,000, too", beats[26], 10000);
        CHECK.due("none behind it", beats[27], -5);
        x = Check.of(far);
        x.push(0, 1);
        x.push(1, 7);
        beats = swingsAndDrops(x, 27);
        CHECK.due("the first in 121", beats[0], 121);
        CHECK.due("the 26th", beats[25], 9621);
        CHECK.due("10,001 is beyond", beats[26], -5);
        CHECK.due("another push brings them together", x.push(0, 19), 0);
        CHECK.due("another push brings them together", x.push(1, 18), 6);
        CHECK.due("10,000", x.swing(0, 1), 10000);
    }

    private static void swingFromBeat0On() {
        WristTreaty x = Check.of("gorge far 1 far 1 odds 0; man on 0 grip 1 wits 0; man on 1 grip 1 wits 0; wind from 3 to 4;");
        int[] due = {0, 1, 2, 5, 6};
        int[] beats = swingsAndDrops(x, 5);
        for (int i = 0; i < 5; i++) {
            CHECK.due("swing " + i, beats[i], due[i]);
        }
    }

    private static void signAtItsEdges() {
        WristTreaty x = Check.of(WHOLE);
        for (int no : FAR_OFF) {
            CHECK.due("sign(" + no + ")", x.sign(no), -2);
        }
        CHECK.due("none hold", x.sign(0), -5);
        x.swing(0, 2);
        for (int no : FAR_OFF) {
            CHECK.due("they hold, sign(" + no + ")", x.sign(no), -2);
        }
        CHECK.due("just what is left", x.sign(3), 0);
        CHECK.due("signed already", x.sign(3), -5);
        CHECK.due("more than is left", x.sign(0), -5);
        now(x, 0, 0, 8, -9, 0, 1);
        x.undo();
        CHECK.due("4 of 9", x.sign(0), 5);
        CHECK.due("6 of 5", x.sign(2), -5);
        CHECK.due("signed already", x.sign(0), -5);
        CHECK.due("5 of 5", x.sign(1), 0);
        now(x, 0, 0, 3, 2, 6, 1);
        x.drop();
        CHECK.due("none hold any more", x.sign(2), -5);
        x.swing(0, 2);
        CHECK.due("signed in another meeting", x.sign(0), -5);
        CHECK.due("just the hold", x.sign(3), 0);
        now(x, 12, 0, 11, -7, 6, 2);
        CHECK.due("acts", x.count(7), 6);
    }

    private static void dropAtItsEdges() {
        WristTreaty x = Check.of(WHOLE);
        CHECK.due("none hold", x.drop(), -5);
        x.swing(0, 2);
        CHECK.due("none is signed", x.drop(), 0);
        CHECK.due("none hold any more", x.drop(), -5);
        x.swing(0, 2);
        x.sign(0);
        x.sign(1);
        CHECK.due("nothing is left, they still hold", x.swing(1, 3), -5);
        CHECK.due("two are signed", x.drop(), 2);
        x.swing(0, 2);
        CHECK.due("of all meetings", x.drop(), 2);
        CHECK.due("acts", x.count(7), 8);
    }

    private static void nowAtItsEdges() {
        WristTreaty x = Check.of(WHOLE);
        for (int what : new int[] {-1, 6, Integer.MIN_VALUE, Integer.MAX_VALUE}) {
            CHECK.due("now(" + what + ")", x.now(what), -1000);
        }
        now(x, -1, -1, 0, 0, 0, 0);
        x.swing(0, 2);
        now(x, 0, 9, 0, 0, 0, 1);
        x.sign(3);
        now(x, 0, 0, 8, -9, 0, 1);
        x.drop();
        now(x, 0, -1, 8, -9, 0, 1);
    }

    private static void undoAtItsEdges() {
        WristTreaty x = Check.of(WHOLE);
        CHECK.due("there is none", x.undo(), -5);
        x.push(0, 0);
        CHECK.due("an act that moved nothing", x.undo(), 0);
        CHECK.due("there is none any more", x.undo(), -5);
        x.push(0, 3);
        x.push(1, 5);
        x.push(0, 19);
        CHECK.due("undo", x.undo(), 2);
        CHECK.due("start(0)", x.start(0), 3);
        CHECK.due("start(1)", x.start(1), 5);
        CHECK.due("undo", x.undo(), 1);
        CHECK.due("start(1)", x.start(1), 0);
        CHECK.due("undo", x.undo(), 0);
        CHECK.due("start(0)", x.start(0), 0);
        x.swing(0, 2);
        x.drop();
        x.swing(1, 3);
        x.sign(3);
        CHECK.due("undo a sign", x.undo(), 3);
        now(x, 12, 9, 0, 0, 0, 2);
        CHECK.due("it can be signed again", x.sign(3), 0);
        x.undo();
        CHECK.due("undo a swing", x.undo(), 2);
        now(x, 0, -1, 0, 0, 0, 1);
        CHECK.due("undo a drop", x.undo(), 1);
        now(x, 0, 9, 0, 0, 0, 1);
        CHECK.due("undo the first swing", x.undo(), 0);
        now(x, -1, -1, 0, 0, 0, 0);
        CHECK.due("from beat 0 on again", x.swing(0, 2), 0);
        x.sign(0);
        x.drop();
        CHECK.due("undo a drop", x.undo(), 2);
        CHECK.due("what was signed stays", x.now(2), 1);
    }

    private static void anewAtItsEdges() {
        WristTreaty x = Check.of(WHOLE);
        CHECK.due("there were none", x.anew(), 0);
        x.push(0, 0);
        CHECK.due("one", x.anew(), 1);
        CHECK.due("none any more", x.anew(), 0);
        x.push(0, 2);
        x.push(1, 2);
        x.swing(0, 2);
        x.sign(0);
        CHECK.due("while they hold", x.anew(), 4);
        now(x, -1, -1, 0, 0, 0, 0);
        CHECK.due("start(0)", x.start(0), 0);
        CHECK.due("start(1)", x.start(1), 0);
        CHECK.due("nothing to take back", x.undo(), -5);
        CHECK.due("none hold", x.push(0, 0), 0);
        CHECK.due("from beat 0 on", x.swing(0, 2), 0);
        Check.read(x, WHOLE);
        now(x, -1, -1, 0, 0, 0, 0);
        CHECK.due("none hold in another gorge", x.push(0, 1), 1);
    }

    private static void sixtyActs() {
        WristTreaty x = Check.of(WHOLE);
        for (int i = 0; i < 58; i++) {
            x.push(0, 1);
        }
        x.push(0, 2);
        CHECK.due("59 acts", x.count(7), 59);
        CHECK.due("the 60th", x.swing(0, 2), 0);
        CHECK.due("60 acts, push", x.push(0, 0), -5);
        CHECK.due("60 acts, swing", x.swing(0, 2), -5);
        CHECK.due("60 acts, sign", x.sign(0), -5);
        CHECK.due("60 acts, drop", x.drop(), -5);
        CHECK.due("60 acts, no such side", x.push(2, 0), -2);
        CHECK.due("60 acts, no such man", x.swing(0, 4), -2);
        CHECK.due("60 acts, no such clause", x.sign(4), -2);
        CHECK.due("60 acts, grip", x.grip(0, 1), -5);
        CHECK.due("60 acts", x.count(7), 60);
        now(x, 0, 9, 0, 0, 0, 1);
        CHECK.due("one taken back", x.undo(), 59);
        CHECK.due("the 60th again", x.push(0, 1), 1);
        CHECK.due("60 acts, none hold, push", x.push(0, 1), -5);
        CHECK.due("60 acts, none hold, swing", x.swing(0, 2), -5);
        CHECK.due("start(0)", x.start(0), 1);
        x.undo();
        x.undo();
        CHECK.due("57 acts", x.undo(), 57);
        x.push(0, 3);
        CHECK.due("the 59th", x.swing(0, 2), 0);
        CHECK.due("the 60th, a sign", x.sign(0), 5);
        CHECK.due("no 61st", x.sign(1), -5);
        CHECK.due("no 61st", x.drop(), -5);
        x.undo();
        CHECK.due("the 60th, a drop", x.drop(), 0);
        CHECK.due("no 61st", x.swing(0, 2), -5);
        CHECK.due("all 60", x.anew(), 60);
        CHECK.due("start(0)", x.start(0), 0);
    }

    private static void gripAtItsEdges() {
        WristTreaty x = Check.of(WHOLE);
        for (int no : FAR_OFF) {
            CHECK.due("grip(" + no + ", 1)", x.grip(no, 1), -2);
        }
        for (int no : new int[] {0, 31, -1, Integer.MIN_VALUE, Integer.MAX_VALUE}) {
            CHECK.due("grip(0, " + no + ")", x.grip(0, no), -2);
        }
        CHECK.due("as it was", x.man(0, 1), 9);
        CHECK.due("grip(0, 30)", x.grip(0, 30), 9);
        CHECK.due("grip(0, 1)", x.grip(0, 1), 30);
        CHECK.due("grip(0, 1) again", x.grip(0, 1), 1);
        CHECK.due("the other ones stay", x.man(1, 1), 8);
        CHECK.due("from now on", x.hold(0, 2), 1);
        CHECK.due("no act", x.count(7), 0);
        x.push(0, 0);
        CHECK.due("behind an act", x.grip(0, 2), -5);
        CHECK.due("behind an act, no such man", x.grip(4, 2), -2);
        CHECK.due("behind an act, no such grip", x.grip(0, 31), -2);
        CHECK.due("behind an act, no such grip", x.grip(0, 0), -2);
        CHECK.due("as it was", x.man(0, 1), 1);
        x.undo();
        CHECK.due("taken back", x.grip(0, 2), 1);
        x.swing(0, 2);
        x.anew();
        CHECK.due("all taken back", x.grip(0, 3), 2);
    }

    private static void countAtItsEdges() {
        WristTreaty x = Check.of("gorge far 20 far 19 odds 10;" + WHOLE.substring(25) + "wind from 1 to 1; pot 20;");
        for (int what : new int[] {-1, 11, Integer.MIN_VALUE, Integer.MAX_VALUE}) {
            CHECK.due("count(" + what + ")", x.count(what), -1);
        }
        x.push(0, 1);
        x.row(3, 0, 0);
        x.feed(0, 0, 0, 0, 0);
        int[] due = {20, 19, 10, 20, 4, 4, 1, 1, 11, 20, 1};
        for (int what = 0; what < due.length; what++) {
            CHECK.due("count(" + what + ")", x.count(what), due[what]);
        }
        for (int slot = 0; slot < 4; slot++) {
            x.row(slot, slot, slot);
        }
        CHECK.due("all slots", x.count(10), 4);
        x = new WristTreaty();
        for (int what = 0; what <= 10; what++) {
            CHECK.due("a new one's count(" + what + ")", x.count(what), 0);
        }
        CHECK.due("a new one's count(-1)", x.count(-1), -1);
        CHECK.due("a new one's count(11)", x.count(11), -1);
    }

    private static void imagesAtTheirEdges() {
        WristTreaty x = Check.of(WHOLE);
        for (int no : new int[] {-1, 3, Integer.MIN_VALUE, Integer.MAX_VALUE}) {
            CHECK.due("image(" + no + ")", x.image(no), -2);
            CHECK.due("back(" + no + ")", x.back(no), -2);
        }
        for (int k = 0; k < 3; k++) {
            CHECK.due("it has nothing", x.back(k), -6);
        }
        for (int k = 0; k < 3; k++) {
            x.push(1, 1);
            CHECK.due("image(" + k + ")", x.image(k), 0);
            CHECK.due("the next has nothing", k < 2 ? x.back(k + 1) : -6, -6);
        }
        for (int k = 2; k >= 0; k--) {
            CHECK.due("back(" + k + ")", x.back(k), 0);
            CHECK.due("start(1)", x.start(1), k + 1);
            CHECK.due("acts", x.count(7), k + 1);
        }
        CHECK.due("an image in place of another", x.image(2), 0);
        x.push(1, 1);
        CHECK.due("back(2)", x.back(2), 0);
        CHECK.due("start(1)", x.start(1), 1);
    }

    /** Acts of every kind, then sixty others in their place: all of it comes back with the image. */
    private static void imagesKeepAllActs() {
        WristTreaty x = Check.of(WHOLE);
        for (int i = 0; i < 13; i++) {
            x.push(1, 6);
            x.swing(0, 2);
            x.sign(i % 4);
            x.drop();
        }
        CHECK.due("acts", x.count(7), 13 * 3 + 4);
        int signed = x.now(2);
        int latest = x.now(0);
        x.image(1);
        x.anew();
        for (int i = 0; i < 60; i++) {
            x.push(0, 3);
        }
        x.back(1);
        CHECK.due("acts", x.count(7), 43);
        CHECK.due("start(0)", x.start(0), 0);
        now(x, latest, -1, signed, x.worth(signed, 0), x.worth(signed, 1), 13);
        for (int acts = 42; acts >= 0; acts--) {
            CHECK.due("undo", x.undo(), acts);
            CHECK.due("start(0)", x.start(0), 0);
        }
        now(x, -1, -1, 0, 0, 0, 0);
        CHECK.due("start(1)", x.start(1), 0);
        x.push(1, 5);
        x.push(0, 3);
        x.image(1);
        x.anew();
        x.back(1);
        CHECK.due("start(1)", x.start(1), 5);
        CHECK.due("start(0)", x.start(0), 3);
        x.undo();
        CHECK.due("start(0)", x.start(0), 0);
        x.undo();
        CHECK.due("start(1)", x.start(1), 0);
    }

    private static void imagesStayAsTheyWere() {
        WristTreaty x = Check.of(WHOLE);
        x.swing(0, 2);
        x.image(0);
        x.sign(0);
        x.drop();
        CHECK.due("back(0)", x.back(0), 0);
        now(x, 0, 9, 0, 0, 0, 1);
        x.anew();
        x.grip(0, 1);
        Check.read(x, "gorge far 9 far 8 odds 7; man on 1 grip 2 wits 3; pot 6;");
        CHECK.due("back(0)", x.back(0), 0);
        now(x, 0, 9, 0, 0, 0, 1);
        CHECK.due("the grip that was", x.man(0, 1), 9);
        CHECK.due("the pot that was", x.count(3), 0);
        CHECK.due("men", x.count(4), 4);
        x.gorge();
        CHECK.due("none", x.count(8), 0);
        CHECK.due("back(0)", x.back(0), 0);
        CHECK.due("sign(3)", x.sign(3), 0);
        WristTreaty y = new WristTreaty();
        CHECK.due("an image of no gorge", y.image(2), 0);
        Check.read(y, WHOLE);
        y.push(0, 1);
        CHECK.due("back(2)", y.back(2), 0);
        CHECK.due("no gorge", y.start(0), -2);
        CHECK.due("no acts", y.count(7), 0);
        CHECK.due("no lines", y.count(8), 0);
        CHECK.due("image(0) has nothing", y.back(0), -6);
    }
}
