/** Terms VII and promises 52 to 55, sentence by sentence: every boundary that the document names for who was tired. */
public final class TiredEdgesTest {
    private static final Check CHECK = new Check("TiredEdgesTest");
    private static final String FIRST = "gorge far 1 far 1 odds 0;";
    private static final int[] FAR_OFF = {-1, 4, 8, Integer.MIN_VALUE, Integer.MAX_VALUE};

    public static void main(String[] args) {
        noSuchSlot();
        nothing();
        noSuchNumbers();
        notThreeEach();
        noSuchMan();
        eightMen();
        emptyRow();
        fullRow();
        leastAndGreatestLoss();
        heldAtItsEdges();
        justAsLong();
        askIfFewerThanNow();
        askFirstOfSeveral();
        askLongestHold();
        ofThisRowAlone();
        CHECK.finish();
    }

    private static String man(int side, int grip, int wits) {
        return "man on " + side + " grip " + grip + " wits " + wits + ";";
    }

    /** All four calls at once; the last one for man 0. */
    private static void told(WristTreaty x, int slot, int fits, int tired, int ask, int by) {
        CHECK.due("fits(" + slot + ")", x.fits(slot), fits);
        CHECK.due("tired(" + slot + ")", x.tired(slot), tired);
        CHECK.due("ask(" + slot + ")", x.ask(slot), ask);
        CHECK.due("by(" + slot + ", 0)", x.by(slot, 0), by);
    }

    private static void refused(WristTreaty x, int slot, int refusal) {
        told(x, slot, refusal, refusal, refusal, refusal);
    }

    private static WristTreaty four() {
        return Check.of(FIRST + man(0, 9, 0) + man(0, 9, 0) + man(1, 9, 0) + man(1, 9, 0));
    }

    private static void noSuchSlot() {
        WristTreaty x = four();
        for (int slot : FAR_OFF) {
            refused(x, slot, -2);
        }
        for (int slot = 0; slot < 4; slot++) {
            Check.row(x, slot, 0, 2, 8);
            told(x, slot, 2, 5, 3, 1);
        }
        for (int slot : FAR_OFF) {
            refused(x, slot, -2);
        }
    }

    private static void nothing() {
        WristTreaty x = four();
        for (int slot = 0; slot < 4; slot++) {
            refused(x, slot, -6);
            CHECK.due("-2 ahead of -6", x.by(slot, 4), -2);
            CHECK.due("-2 ahead of -6", x.by(slot, -1), -2);
        }
    }

    private static void noSuchNumbers() {
        WristTreaty x = four();
        long[][] wrong = {{-1, 2, 8}, {4, 2, 8}, {2, 2, 8}, {3, 2, 8}, {0, -1, 8}, {0, 4, 8}, {0, 0, 8}, {0, 1, 8}, {2, 0, 8},
            {0, 2, -1}, {0, 2, 100}, {0, 2, 256}, {256, 2, 8}, {0, 258, 8}, {4294967296L, 2, 8}, {0, 4294967298L, 8},
            {0, 2, 4294967304L}, {Long.MIN_VALUE, 2, 8}, {0, Long.MAX_VALUE, 8}, {0, 2, Long.MIN_VALUE}};
        for (long[] three : wrong) {
            Check.row(x, 0, three);
            refused(x, 0, -2);
            Check.row(x, 0, 1, 3, 9, three[0], three[1], three[2]);
            refused(x, 0, -2);
            Check.row(x, 0, three[0], three[1], three[2], 1, 3, 9);
            refused(x, 0, -2);
        }
    }

    private static void notThreeEach() {
        WristTreaty x = four();
        for (int n = 0; n <= 60; n++) {
            long[] numbers = new long[n];
            for (int i = 0; i < n; i++) {
                numbers[i] = new long[] {0, 2, 8}[i % 3];
            }
            Check.row(x, 0, numbers);
            if (n % 3 != 0) {
                refused(x, 0, -2);
            } else if (n > 0) {
                told(x, 0, 2, 5, 3, 1);
            }
        }
        // The numbers behind the row's last three are none such, if they were looked at.
        Check.row(x, 0, 0, 2, 8, 0);
        refused(x, 0, -2);
    }

    private static void noSuchMan() {
        WristTreaty x = four();
        Check.row(x, 0, 0, 2, 8);
        for (int man : FAR_OFF) {
            CHECK.due("by(0, " + man + ")", x.by(0, man), -2);
            CHECK.due("by(4, " + man + ")", x.by(4, man), -2);
        }
        int[] least = {1, -1, 1, -1};
        for (int man = 0; man < 4; man++) {
            CHECK.due("by(0, " + man + ")", x.by(0, man), least[man]);
        }
    }

    private static void eightMen() {
        WristTreaty x = Check.of(FIRST + man(0, 30, 0).repeat(4) + man(1, 30, 0).repeat(4));
        Check.row(x, 0, 3, 7, 30);
        CHECK.due("fits(0)", x.fits(0), 6 * 29);
        CHECK.due("tired(0)", x.tired(0), 0x77);
        CHECK.due("by(0, 7)", x.by(0, 7), -1);
        CHECK.due("by(0, 6)", x.by(0, 6), 1);
        CHECK.due("by(0, 8)", x.by(0, 8), -2);
        Check.row(x, 0, 3, 7, 1, 2, 7, 1);
        told(x, 0, 1, 128, -1, -1);
        CHECK.due("by(0, 7)", x.by(0, 7), 29);
    }

    private static void emptyRow() {
        WristTreaty x = four();
        Check.row(x, 0);
        CHECK.due("all eight of each", x.fits(0), 32);
        CHECK.due("all men", x.tired(0), 15);
        CHECK.due("by(0, 3)", x.by(0, 3), 1);
        // Of each pair 16 are told apart two by two, and 16 hold 9 as ever.
        CHECK.due("ask(0)", x.ask(0), 2);
        x = Check.of(FIRST);
        Check.row(x, 0);
        CHECK.due("nobody", x.fits(0), 0);
        CHECK.due("nobody", x.tired(0), 0);
        CHECK.due("nobody", x.ask(0), -1);
        CHECK.due("nobody", x.by(0, 0), -2);
    }

    private static void fullRow() {
        WristTreaty x = four();
        long[] sixty = new long[60];
        for (int i = 0; i < 60; i += 3) {
            sixty[i] = i % 2;
            sixty[i + 1] = 3;
            sixty[i + 2] = 7;
        }
        Check.row(x, 0, sixty);
        told(x, 0, 1, 8, -1, -1);
        CHECK.due("by(0, 3)", x.by(0, 3), 2);
        x.write(0, 59, 8);
        told(x, 0, 0, 0, -1, -1);
    }

    private static void leastAndGreatestLoss() {
        WristTreaty x = Check.of(FIRST + man(0, 30, 0) + man(1, 1, 9));
        Check.row(x, 0);
        told(x, 0, 29, 1, -1, 1);
        CHECK.due("a grip of 1 can't be less", x.by(0, 1), -1);
        x = Check.of(FIRST + man(0, 30, 9) + man(1, 30, 0));
        for (int loss = 1; loss <= 29; loss++) {
            Check.row(x, 0, 0, 1, 30 - loss);
            told(x, 0, 2, 3, -1, loss);
        }
        Check.row(x, 0, 0, 1, 30);
        told(x, 0, 0, 0, -1, -1);
        Check.row(x, 0, 0, 1, 0);
        told(x, 0, 0, 0, -1, -1);
        x = Check.of(FIRST + man(0, 2, 0) + man(1, 1, 0));
        Check.row(x, 0, 0, 1, 1);
        told(x, 0, 1, 1, -1, 1);
        x = Check.of(FIRST + man(0, 1, 0) + man(1, 1, 0));
        Check.row(x, 0, 0, 1, 1);
        told(x, 0, 0, 0, -1, -1);
    }

    private static void heldAtItsEdges() {
        WristTreaty x = four();
        Check.row(x, 0, 0, 2, 0);
        told(x, 0, 0, 0, -1, -1);
        Check.row(x, 0, 0, 2, 99);
        told(x, 0, 0, 0, -1, -1);
        Check.row(x, 0, 0, 2, 1);
        told(x, 0, 2, 5, 3, 8);
    }

    private static void justAsLong() {
        WristTreaty x = Check.of(FIRST + man(0, 9, 2) + man(1, 5, 3));
        Check.row(x, 0, 0, 1, 7);
        // Man 0 may have lost 1 to 4 and nobody sees it.
        told(x, 0, 4, 1, -1, 1);
        Check.row(x, 0, 0, 1, 6);
        told(x, 0, 2, 3, -1, 5);
        CHECK.due("by(0, 1)", x.by(0, 1), 1);
        Check.row(x, 0, 0, 1, 8);
        told(x, 0, 0, 0, -1, -1);
        Check.row(x, 0, 0, 1, 6, 0, 1, 6);
        told(x, 0, 2, 3, -1, 5);
        Check.row(x, 0, 0, 1, 6, 0, 1, 7);
        told(x, 0, 0, 0, -1, -1);
        x = Check.of(FIRST + man(0, 5, 3) + man(1, 9, 2));
        Check.row(x, 0, 0, 1, 7);
        told(x, 0, 4, 2, -1, -1);
        CHECK.due("by(0, 1)", x.by(0, 1), 1);
        Check.row(x, 0, 0, 1, 3);
        told(x, 0, 2, 3, -1, 4);
        CHECK.due("by(0, 1)", x.by(0, 1), 8);
    }

    private static void askIfFewerThanNow() {
        WristTreaty x = Check.of(FIRST + man(1, 3, 0) + man(0, 3, 0));
        Check.row(x, 0);
        CHECK.due("four, two at worst", x.ask(0), 10);
        Check.row(x, 0, 1, 0, 2);
        CHECK.due("two, which no pair tells apart", x.ask(0), -1);
        x = four();
        Check.row(x, 0, 0, 2, 8, 0, 3, 9);
        CHECK.due("one is left", x.fits(0), 1);
        CHECK.due("nothing to ask", x.ask(0), -1);
        x = Check.of(FIRST + man(0, 2, 0) + man(1, 2, 0) + man(1, 2, 0));
        Check.row(x, 0, 0, 1, 1);
        CHECK.due("two", x.fits(0), 2);
        CHECK.due("two told apart", x.ask(0), 2);
    }

    private static void askFirstOfSeveral() {
        WristTreaty x = Check.of(FIRST + man(1, 9, 0).repeat(2) + man(0, 9, 0).repeat(2));
        Check.row(x, 0);
        CHECK.due("all alike", x.ask(0), 20);
        Check.row(x, 0, 2, 0, 5);
        CHECK.due("one of the two, by the other pair", x.ask(0), 21);
        Check.row(x, 0, 3, 0, 5);
        CHECK.due("the same of 3", x.ask(0), 20);
        x = Check.of(FIRST + man(1, 1, 0) + man(1, 1, 0) + man(0, 1, 0) + man(0, 1, 0) + man(0, 3, 0) + man(1, 3, 0));
        Check.row(x, 0);
        CHECK.due("5 with 4 alone tells", x.ask(0), 45);
    }

    private static void askLongestHold() {
        WristTreaty x = Check.of(FIRST + man(0, 30, 9) + man(1, 30, 9) + man(1, 30, 0));
        Check.row(x, 0, 0, 1, 39);
        CHECK.due("man 2 alone", x.tired(0), 4);
        CHECK.due("all of his", x.fits(0), 29);
        CHECK.due("39 is told of 0 with 1 in each case", x.ask(0), 2);
    }

    /** What one row told must not be told of another one, or by another grip, whichever call is the first. */
    private static void ofThisRowAlone() {
        WristTreaty x = four();
        Check.row(x, 0, 0, 2, 8);
        Check.row(x, 1, 1, 3, 4);
        CHECK.due("fits(0)", x.fits(0), 2);
        CHECK.due("tired(1)", x.tired(1), 10);
        CHECK.due("by(0, 0)", x.by(0, 0), 1);
        CHECK.due("by(1, 0)", x.by(1, 0), -1);
        CHECK.due("by(1, 1)", x.by(1, 1), 5);
        CHECK.due("ask(0)", x.ask(0), 3);
        CHECK.due("ask(1)", x.ask(1), 3);
        x.grip(0, 1);
        CHECK.due("tired(0)", x.tired(0), 0);
        Check.row(x, 1);
        CHECK.due("ask(1)", x.ask(1), 12);
        x.grip(0, 10);
        CHECK.due("by(0, 0)", x.by(0, 0), 2);
    }
}
