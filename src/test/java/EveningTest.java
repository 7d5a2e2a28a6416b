/** Promises 59 to 65, 68, 70 and 71: the evening's acts, grips, and images. */
public final class EveningTest {
    private static final Check CHECK = new Check("EveningTest");
    // Meetings by starts of 0: 12, 36, 48, ..; by a start of 2 of side 0: 6, 18, 42, ..
    private static final String WHOLE = "gorge far 4 far 6 odds 2; wind from 0 to 5; wind from 24 to 30;"
            + "man on 0 grip 10 wits 2; man on 0 grip 6 wits 5; man on 1 grip 8 wits 1; man on 1 grip 12 wits 4;"
            + "clause says 4 gives 5 takes 2; clause says 5 takes 3 gives 8;"
            + "clause says 6 gives 10 takes 9; clause says 3 takes 1 gives 2;";

    public static void main(String[] args) {
        withoutGorge();
        refusals();
        evening();
        takenBack();
        anew();
        sixtyActs();
        noMoreMeetings();
        grips();
        images();
        imageOfNone();
        CHECK.finish();
    }

    private static void withoutGorge() {
        WristTreaty x = new WristTreaty();
        CHECK.due("push", x.push(0, 1), -2);
        CHECK.due("swing", x.swing(0, 1), -2);
        CHECK.due("sign", x.sign(0), -2);
        CHECK.due("drop", x.drop(), -2);
        for (int what = -1; what <= 6; what++) {
            CHECK.due("now", x.now(what), -1000);
        }
        CHECK.due("undo", x.undo(), -2);
        CHECK.due("anew", x.anew(), -2);
        CHECK.due("grip", x.grip(0, 1), -2);
    }

    private static void refusals() {
        WristTreaty x = Check.of(WHOLE);
        CHECK.due("push(2, 0)", x.push(2, 0), -2);
        CHECK.due("push(-1, 0)", x.push(-1, 0), -2);
        CHECK.due("push(0, 20)", x.push(0, 20), -2);
        CHECK.due("push(0, -1)", x.push(0, -1), -2);
        CHECK.due("swing(0, 1)", x.swing(0, 1), -2);
        CHECK.due("swing(0, 0)", x.swing(0, 0), -2);
        CHECK.due("swing(0, 4)", x.swing(0, 4), -2);
        CHECK.due("swing(-1, 2)", x.swing(-1, 2), -2);
        CHECK.due("sign(0)", x.sign(0), -5);
        CHECK.due("sign(4)", x.sign(4), -2);
        CHECK.due("sign(-1)", x.sign(-1), -2);
        CHECK.due("drop()", x.drop(), -5);
        CHECK.due("undo()", x.undo(), -5);
        CHECK.due("anew()", x.anew(), 0);
        CHECK.due("now(-1)", x.now(-1), -1000);
        CHECK.due("now(6)", x.now(6), -1000);
        now(x, -1, -1, 0, 0, 0, 0);
        CHECK.due("no acts", x.count(7), 0);
        x.swing(0, 2);
        CHECK.due("-2 ahead of -5, push", x.push(2, 0), -2);
        CHECK.due("-2 ahead of -5, swing", x.swing(0, 1), -2);
    }

    private static void now(WristTreaty x, int... due) {
        for (int what = 0; what < due.length; what++) {
            CHECK.due("now(" + what + ")", x.now(what), due[what]);
        }
    }

    /** Seven acts, told at each step. */
    private static WristTreaty evening() {
        WristTreaty x = Check.of(WHOLE);
        CHECK.due("swing(0, 2)", x.swing(0, 2), 12);
        now(x, 12, 9, 0, 0, 0, 1);
        CHECK.due("push while they hold", x.push(0, 1), -5);
        CHECK.due("swing while they hold", x.swing(1, 3), -5);
        CHECK.due("sign(0)", x.sign(0), 5);
        CHECK.due("sign(0) again", x.sign(0), -5);
        CHECK.due("sign(2), too long", x.sign(2), -5);
        CHECK.due("sign(1)", x.sign(1), 0);
        now(x, 12, 0, 3, 2, 6, 1);
        CHECK.due("sign(3), nothing left", x.sign(3), -5);
        CHECK.due("swing, nothing left", x.swing(1, 3), -5);
        CHECK.due("drop()", x.drop(), 2);
        now(x, 12, -1, 3, 2, 6, 1);
        CHECK.due("drop() again", x.drop(), -5);
        CHECK.due("push(0, 2)", x.push(0, 2), 2);
        CHECK.due("start(0)", x.start(0), 2);
        CHECK.due("next(0)", x.next(0), 6);
        CHECK.due("swing(3, 1)", x.swing(3, 1), 18);
        now(x, 18, 10, 3, 2, 6, 2);
        CHECK.due("sign(1), signed in another", x.sign(1), -5);
        CHECK.due("sign(2)", x.sign(2), 4);
        now(x, 18, 4, 7, 12, -3, 2);
        CHECK.due("acts", x.count(7), 7);
        return x;
    }

    private static void takenBack() {
        WristTreaty x = evening();
        CHECK.due("undo sign", x.undo(), 6);
        now(x, 18, 10, 3, 2, 6, 2);
        CHECK.due("undo swing", x.undo(), 5);
        now(x, 12, -1, 3, 2, 6, 1);
        CHECK.due("undo push", x.undo(), 4);
        CHECK.due("start(0)", x.start(0), 0);
        CHECK.due("undo drop", x.undo(), 3);
        now(x, 12, 0, 3, 2, 6, 1);
        CHECK.due("undo sign", x.undo(), 2);
        now(x, 12, 5, 1, 5, -2, 1);
        CHECK.due("sign(3) in its place", x.sign(3), 2);
        CHECK.due("undo sign", x.undo(), 2);
        CHECK.due("undo sign", x.undo(), 1);
        CHECK.due("undo swing", x.undo(), 0);
        now(x, -1, -1, 0, 0, 0, 0);
        CHECK.due("undo nothing", x.undo(), -5);
        CHECK.due("swing again", x.swing(2, 0), 12);
    }

    private static void anew() {
        WristTreaty x = evening();
        x.drop();
        CHECK.due("push(1, 4)", x.push(1, 4), 4);
        CHECK.due("anew()", x.anew(), 9);
        now(x, -1, -1, 0, 0, 0, 0);
        CHECK.due("acts", x.count(7), 0);
        CHECK.due("start(0)", x.start(0), 0);
        CHECK.due("start(1)", x.start(1), 0);
        CHECK.due("undo nothing", x.undo(), -5);
        CHECK.due("anew() again", x.anew(), 0);
    }

    private static void sixtyActs() {
        WristTreaty x = Check.of(WHOLE);
        for (int i = 1; i <= 58; i++) {
            CHECK.due("push " + i, x.push(1, 1), i % 6);
        }
        CHECK.due("undo", x.undo(), 57);
        CHECK.due("push a whole far", x.push(1, 9), 0);
        CHECK.due("push nothing", x.push(0, 0), 0);
        CHECK.due("acts", x.count(7), 59);
        CHECK.due("the 60th", x.swing(0, 2), 12);
        CHECK.due("the 61st, sign", x.sign(0), -5);
        CHECK.due("the 61st, drop", x.drop(), -5);
        CHECK.due("undo", x.undo(), 59);
        CHECK.due("push, the 60th", x.push(0, 1), 1);
        CHECK.due("the 61st, push", x.push(0, 1), -5);
        CHECK.due("the 61st, swing", x.swing(0, 2), -5);
        CHECK.due("no such push", x.push(0, 20), -2);
        CHECK.due("start(0)", x.start(0), 1);
        CHECK.due("anew()", x.anew(), 60);
        CHECK.due("start(1)", x.start(1), 0);
    }

    private static void noMoreMeetings() {
        WristTreaty x = Check.of(WHOLE);
        x.push(0, 1);
        CHECK.due("they never meet", x.swing(0, 2), -5);
        CHECK.due("acts", x.count(7), 1);
        now(x, -1, -1, 0, 0, 0, 0);
        CHECK.due("push(0, 3)", x.push(0, 3), 0);
        CHECK.due("swing", x.swing(0, 2), 12);
        x.drop();
        // Side 0 starts later, and the next meeting is behind the latest one, by the starts of now.
        x.push(0, 2);
        CHECK.due("swing behind 12", x.swing(0, 2), 18);
        x.drop();
        CHECK.due("swing behind 18, past the wind", x.swing(0, 2), 42);
    }

    private static void grips() {
        WristTreaty x = Check.of(WHOLE);
        CHECK.due("grip(0, 0)", x.grip(0, 0), -2);
        CHECK.due("grip(0, 31)", x.grip(0, 31), -2);
        CHECK.due("grip(4, 1)", x.grip(4, 1), -2);
        CHECK.due("grip(-1, 1)", x.grip(-1, 1), -2);
        CHECK.due("grip(0, 1)", x.grip(0, 1), 10);
        CHECK.due("man(0, 1)", x.man(0, 1), 1);
        CHECK.due("hold(0, 2)", x.hold(0, 2), 2);
        CHECK.due("weak(0)", x.weak(0), 0);
        CHECK.due("grip(0, 30)", x.grip(0, 30), 1);
        x.push(0, 1);
        CHECK.due("grip behind an act", x.grip(0, 1), -5);
        CHECK.due("-2 ahead of -5", x.grip(0, 31), -2);
        x.undo();
        CHECK.due("grip behind none", x.grip(0, 5), 30);
        x.push(0, 1);
        x.anew();
        CHECK.due("a grip is no act", x.man(0, 1), 5);
    }

    private static void images() {
        WristTreaty x = evening();
        CHECK.due("back(0) of nothing", x.back(0), -6);
        CHECK.due("back(-1)", x.back(-1), -2);
        CHECK.due("back(3)", x.back(3), -2);
        CHECK.due("image(-1)", x.image(-1), -2);
        CHECK.due("image(3)", x.image(3), -2);
        CHECK.due("image(0)", x.image(0), 0);
        CHECK.due("image(2)", x.image(2), 0);
        CHECK.due("back(1) of nothing", x.back(1), -6);
        x.anew();
        x.grip(0, 3);
        CHECK.due("image(2), another one", x.image(2), 0);
        CHECK.due("back(0)", x.back(0), 0);
        now(x, 18, 4, 7, 12, -3, 2);
        CHECK.due("acts", x.count(7), 7);
        CHECK.due("man(0, 1)", x.man(0, 1), 10);
        CHECK.due("start(0)", x.start(0), 2);
        CHECK.due("undo()", x.undo(), 6);
        CHECK.due("undo()", x.undo(), 5);
        CHECK.due("undo()", x.undo(), 4);
        CHECK.due("start(0)", x.start(0), 0);
        CHECK.due("back(2)", x.back(2), 0);
        CHECK.due("man(0, 1)", x.man(0, 1), 3);
        CHECK.due("acts", x.count(7), 0);
        CHECK.due("an image stays as it was", x.back(0), 0);
        CHECK.due("acts", x.count(7), 7);
        Check.read(x, "gorge far 1 far 2 odds 3;");
        CHECK.due("another gorge", x.count(8), 1);
        Check.feed(x, "gorge");
        Check.row(x, 3, 1, 2);
        CHECK.due("back(0)", x.back(0), 0);
        CHECK.due("lines", x.count(8), 11);
        CHECK.due("the tape is not of it", x.count(9), 5);
        CHECK.due("nor are slots", x.count(10), 1);
        now(x, 18, 4, 7, 12, -3, 2);
        CHECK.due("sign(3)", x.sign(3), 1);
    }

    private static void imageOfNone() {
        WristTreaty x = new WristTreaty();
        CHECK.due("image(1)", x.image(1), 0);
        Check.read(x, WHOLE);
        CHECK.due("back(1)", x.back(1), 0);
        CHECK.due("no gorge", x.start(0), -2);
        CHECK.due("no men", x.count(4), 0);
    }
}
