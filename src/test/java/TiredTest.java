/** Promises 52 to 55: who was tired, by what was held. */
public final class TiredTest {
    private static final Check CHECK = new Check("TiredTest");
    // Holds: 0 and 2 9, 0 and 3 12, 1 and 2 7, 1 and 3 10.
    private static final String FOUR = "gorge far 4 far 6 odds 2;"
            + "man on 0 grip 10 wits 2; man on 0 grip 6 wits 5;"
            + "man on 1 grip 8 wits 1; man on 1 grip 12 wits 4;";

    public static void main(String[] args) {
        refusals();
        asEver();
        lessThanEver();
        severalTold();
        nothingTold();
        leastGrip();
        CHECK.finish();
    }

    private static void told(WristTreaty x, int fits, int tired, int ask) {
        CHECK.due("fits(0)", x.fits(0), fits);
        CHECK.due("tired(0)", x.tired(0), tired);
        CHECK.due("ask(0)", x.ask(0), ask);
    }

    private static void refusals() {
        WristTreaty x = new WristTreaty();
        Check.row(x, 0, 0, 2, 9);
        told(x, -2, -2, -2);
        CHECK.due("no gorge, nothing", x.fits(1), -2);
        CHECK.due("no gorge by", x.by(0, 0), -2);
        Check.read(x, FOUR);
        long[][] wrong = {{0, 2, 100}, {0, 2, -1}, {2, 0, 9}, {0, 1, 9}, {2, 3, 9}, {0, 4, 9}, {4, 2, 9}, {-1, 2, 9},
            {0, 2}, {0, 2, 9, 0}, {0, 2, 9, 0, 3}, {0, 2, 9, 0, 3, 100}, {0}, {4294967296L, 2, 9}};
        for (long[] numbers : wrong) {
            Check.row(x, 0, numbers);
            told(x, -2, -2, -2);
            CHECK.due("by(0, 0)", x.by(0, 0), -2);
        }
        CHECK.due("fits(1)", x.fits(1), -6);
        CHECK.due("tired(1)", x.tired(1), -6);
        CHECK.due("by(1, 0)", x.by(1, 0), -6);
        CHECK.due("by(1, 4)", x.by(1, 4), -2);
        CHECK.due("ask(1)", x.ask(1), -6);
        CHECK.due("fits(4)", x.fits(4), -2);
        CHECK.due("tired(-1)", x.tired(-1), -2);
        CHECK.due("by(4, 0)", x.by(4, 0), -2);
        CHECK.due("ask(4)", x.ask(4), -2);
    }

    private static void asEver() {
        WristTreaty x = Check.of(FOUR);
        x.row(0, 0, 3);
        x.write(0, 1, 2);
        x.write(0, 2, 9);
        told(x, 18, 11, 3);
        CHECK.due("by(0, 0)", x.by(0, 0), 1);
        CHECK.due("by(0, 1)", x.by(0, 1), 1);
        CHECK.due("by(0, 2)", x.by(0, 2), -1);
        CHECK.due("by(0, 3)", x.by(0, 3), 1);
        CHECK.due("by(0, 4)", x.by(0, 4), -2);
        CHECK.due("by(0, -1)", x.by(0, -1), -2);
    }

    private static void lessThanEver() {
        WristTreaty x = Check.of(FOUR);
        Check.row(x, 0, 0, 2, 5);
        told(x, 2, 5, 3);
        CHECK.due("by(0, 0)", x.by(0, 0), 6);
        CHECK.due("by(0, 2)", x.by(0, 2), 4);
        CHECK.due("by(0, 1)", x.by(0, 1), -1);
        Check.row(x, 0, 0, 2, 99);
        told(x, 0, 0, -1);
        Check.row(x, 0, 0, 2, 0);
        told(x, 0, 0, -1);
        Check.row(x, 0, 0, 2, 10);
        told(x, 0, 0, -1);
    }

    private static void severalTold() {
        WristTreaty x = Check.of(FOUR);
        Check.row(x, 0, 0, 2, 5, 0, 3, 12);
        told(x, 1, 4, -1);
        CHECK.due("by(0, 2)", x.by(0, 2), 4);
        Check.row(x, 0, 0, 2, 5, 0, 3, 6);
        told(x, 1, 1, -1);
        Check.row(x, 0, 0, 2, 5, 1, 2, 7, 0, 3, 12);
        told(x, 0, 0, -1);
    }

    private static void nothingTold() {
        WristTreaty x = Check.of(FOUR);
        Check.row(x, 0);
        CHECK.due("fits(0)", x.fits(0), 9 + 5 + 7 + 11);
        CHECK.due("tired(0)", x.tired(0), 15);
        // By 0 and 2 the 5 and the 11 of 1 and 3, and two of 0, hold as ever: 18. By 0 and 3: 5, 7, 2 of 3: 14.
        // By 1 and 2: 9, 11, 2 of 2: 22. By 1 and 3: 9, 7, 6 of 3: 22.
        CHECK.due("ask(0)", x.ask(0), 3);
        x = Check.of("gorge far 1 far 1 odds 0; man on 0 grip 9 wits 0;");
        Check.row(x, 0);
        told(x, 8, 1, -1);
        x = Check.of("gorge far 1 far 1 odds 0;");
        Check.row(x, 0);
        told(x, 0, 0, -1);
    }

    private static void leastGrip() {
        WristTreaty x = Check.of("gorge far 1 far 1 odds 0; man on 0 grip 1 wits 0; man on 1 grip 30 wits 0;");
        Check.row(x, 0, 0, 1, 1);
        told(x, 29, 2, -1);
        CHECK.due("by(0, 0)", x.by(0, 0), -1);
        CHECK.due("by(0, 1)", x.by(0, 1), 1);
        x = Check.of("gorge far 1 far 1 odds 0; man on 0 grip 30 wits 0; man on 1 grip 30 wits 0;");
        Check.row(x, 0, 0, 1, 1);
        told(x, 2, 3, -1);
        CHECK.due("by(0, 0)", x.by(0, 0), 29);
        x.grip(0, 29);
        Check.row(x, 0, 0, 1, 29);
        told(x, 1, 2, -1);
    }
}
