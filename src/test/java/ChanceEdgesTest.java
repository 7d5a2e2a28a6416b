/** Terms VIII, IX and promises 56 to 58, 66, 67, sentence by sentence: every boundary for chances and draws. */
public final class ChanceEdgesTest {
    private static final Check CHECK = new Check("ChanceEdgesTest");
    private static final int[] FAR_OFF = {-1, 3, 8, Integer.MIN_VALUE, Integer.MAX_VALUE};

    public static void main(String[] args) {
        noSuchMen();
        noSuchNumbers();
        ofOneSide();
        chanceToItsHold();
        chanceOf18();
        lowestTerms();
        sureToItsHold();
        sureByEachOdds();
        meanToItsHold();
        meanOfTheFirst15();
        drawnToItsHold();
        seedsAtTheirEdges();
        luckAtItsEdges();
        CHECK.finish();
    }

    /** Men 0 and 1 of either side hold so many beats; man 2 is of side 0, too. */
    private static WristTreaty of(int odds, int hold) {
        int wits = Math.max(0, hold - 30);
        String rest = " grip " + (hold - wits) + " wits " + wits + ";";
        return Check.of("gorge far 4 far 6 odds " + odds + "; man on 0" + rest + "man on 1" + rest + "man on 0" + rest
                + "clause says 1 gives 0 gives 0; clause says 4 gives 0 gives 0; clause says 9 gives 0 gives 0;"
                + "clause says 10 gives 0 gives 0;");
    }

    private static int[] beyond(int low, int high) {
        return new int[] {low - 1, high + 1, Integer.MIN_VALUE, Integer.MAX_VALUE};
    }

    private static void noSuchMen() {
        WristTreaty x = of(2, 9);
        for (int no : FAR_OFF) {
            CHECK.due("chance(0, " + no + ")", x.chance(0, no, 1, 0), -2);
            CHECK.due("chance(" + no + ", 1)", x.chance(no, 1, 1, 1), -2);
            CHECK.due("sure(0, " + no + ")", x.sure(0, no, 50), -2);
            CHECK.due("sure(" + no + ", 1)", x.sure(no, 1, 50), -2);
            CHECK.due("mean(0, " + no + ")", x.mean(0, no, 0), -2);
            CHECK.due("mean(" + no + ", 1)", x.mean(no, 1, 1), -2);
            CHECK.due("drawn(0, " + no + ")", x.drawn(1, 0, no), -2);
            CHECK.due("drawn(" + no + ", 1)", x.drawn(1, no, 1), -2);
            CHECK.due("luck(0, " + no + ")", x.luck(1, 1, 0, no, 0), -2);
            CHECK.due("luck(" + no + ", 1)", x.luck(1, 1, no, 1, 0), -2);
        }
    }

    private static void noSuchNumbers() {
        WristTreaty x = of(2, 9);
        for (int no : beyond(0, 18)) {
            CHECK.due("chance n " + no, x.chance(0, 1, no, 0), -2);
            CHECK.due("chance n " + no, x.chance(0, 1, no, 1), -2);
        }
        for (int no : beyond(0, 1)) {
            CHECK.due("chance what " + no, x.chance(0, 1, 1, no), -2);
            CHECK.due("mean what " + no, x.mean(0, 1, no), -2);
        }
        for (int no : beyond(0, 100)) {
            CHECK.due("sure p " + no, x.sure(0, 1, no), -2);
        }
        for (int no : beyond(0, 2000000000)) {
            CHECK.due("drawn seed " + no, x.drawn(no, 0, 1), -2);
            CHECK.due("luck seed " + no, x.luck(no, 1, 0, 1, 0), -2);
        }
        for (int no : beyond(1, 20)) {
            CHECK.due("luck n " + no, x.luck(1, no, 0, 1, 0), -2);
        }
        for (int no : beyond(0, 3)) {
            CHECK.due("luck clause " + no, x.luck(1, 1, 0, 1, no), -2);
        }
    }

    private static void ofOneSide() {
        WristTreaty x = of(2, 9);
        int[][] pairs = {{0, 2}, {2, 0}, {0, 0}, {1, 1}};
        for (int[] pair : pairs) {
            String both = "(" + pair[0] + ", " + pair[1] + ")";
            CHECK.due("chance" + both, x.chance(pair[0], pair[1], 0, 0), -1);
            CHECK.due("chance" + both, x.chance(pair[0], pair[1], 18, 1), -1);
            CHECK.due("sure" + both, x.sure(pair[0], pair[1], 100), -1);
            CHECK.due("mean" + both, x.mean(pair[0], pair[1], 1), -1);
            CHECK.due("drawn" + both, x.drawn(0, pair[0], pair[1]), -1);
            CHECK.due("luck" + both, x.luck(0, 20, pair[0], pair[1], 0), -1);
        }
    }

    private static void fraction(WristTreaty x, int n, long above, long below) {
        CHECK.due("chance(0, 1, " + n + ", 0)", x.chance(0, 1, n, 0), above);
        CHECK.due("chance(1, 0, " + n + ", 1)", x.chance(1, 0, n, 1), below);
    }

    private static void chanceToItsHold() {
        WristTreaty x = of(5, 3);
        long[] below = {1, 2, 4, 8};
        for (int n = 0; n <= 18; n++) {
            fraction(x, n, n <= 3 ? 1 : 0, n <= 3 ? below[n] : 1);
        }
        x = of(5, 1);
        fraction(x, 0, 1, 1);
        fraction(x, 1, 1, 2);
        fraction(x, 2, 0, 1);
        x = of(9, 17);
        fraction(x, 17, 1, 100000000000000000L);
        fraction(x, 18, 0, 1);
    }

    private static void chanceOf18() {
        long[][] due = {{1, 1}, {150094635296999121L, 1000000000000000000L}, {68719476736L, 3814697265625L},
            {1628413597910449L, 1000000000000000000L}, {387420489, 3814697265625L}, {1, 262144}, {262144, 3814697265625L},
            {387420489, 1000000000000000000L}, {1, 3814697265625L}, {1, 1000000000000000000L}, {0, 1}};
        for (int odds = 0; odds <= 10; odds++) {
            fraction(of(odds, 18), 18, due[odds][0], due[odds][1]);
            fraction(of(odds, 39), 18, due[odds][0], due[odds][1]);
        }
    }

    private static void lowestTerms() {
        for (int odds = 0; odds <= 10; odds++) {
            fraction(of(odds, 9), 0, 1, 1);
            fraction(of(odds, 9), 10, 0, 1);
        }
        fraction(of(10, 9), 1, 0, 1);
        fraction(of(0, 9), 9, 1, 1);
        fraction(of(4, 9), 1, 3, 5);
        fraction(of(7, 9), 2, 9, 100);
    }

    private static void sureToItsHold() {
        CHECK.due("its hold of 1", of(0, 1).sure(0, 1, 100), 1);
        CHECK.due("its hold of 17", of(0, 17).sure(0, 1, 100), 17);
        CHECK.due("its hold of 18", of(0, 18).sure(0, 1, 100), 18);
        CHECK.due("18 of 19", of(0, 19).sure(0, 1, 100), 18);
        CHECK.due("its hold, whatever the odds", of(10, 9).sure(0, 1, 0), 9);
        CHECK.due("18 of 39, whatever the odds", of(10, 39).sure(0, 1, 0), 18);
        CHECK.due("one in a hundred of none", of(10, 9).sure(0, 1, 1), 0);
        CHECK.due("at least", of(5, 9).sure(0, 1, 50), 1);
        CHECK.due("one more", of(5, 9).sure(0, 1, 51), 0);
        CHECK.due("at least", of(5, 9).sure(0, 1, 25), 2);
        CHECK.due("one more", of(5, 9).sure(0, 1, 26), 1);
    }

    private static void sureByEachOdds() {
        int[] byOne = {18, 18, 18, 12, 9, 6, 5, 3, 2, 2, 0};
        int[] byTwo = {18, 18, 17, 10, 7, 5, 4, 3, 2, 1, 0};
        for (int odds = 0; odds <= 10; odds++) {
            CHECK.due("odds " + odds + ", 0", of(odds, 39).sure(0, 1, 0), 18);
            CHECK.due("odds " + odds + ", 1", of(odds, 39).sure(0, 1, 1), byOne[odds]);
            CHECK.due("odds " + odds + ", 2", of(odds, 39).sure(1, 0, 2), byTwo[odds]);
            CHECK.due("odds " + odds + ", 99", of(odds, 39).sure(0, 1, 99), odds == 0 ? 18 : 0);
            CHECK.due("odds " + odds + ", 100", of(odds, 39).sure(0, 1, 100), odds == 0 ? 18 : 0);
        }
    }

    private static void mean(WristTreaty x, long above, long below) {
        CHECK.due("mean(0, 1, 0)", x.mean(0, 1, 0), above);
        CHECK.due("mean(1, 0, 1)", x.mean(1, 0, 1), below);
    }

    private static void meanToItsHold() {
        mean(of(0, 1), 1, 1);
        mean(of(10, 1), 0, 1);
        mean(of(5, 1), 1, 2);
        mean(of(9, 1), 1, 10);
        mean(of(0, 14), 14, 1);
        mean(of(5, 14), 16383, 16384);
        mean(of(1, 14), 694108867905351L, 100000000000000L);
    }

    private static void meanOfTheFirst15() {
        long[][] due = {{15, 1}, {7146979811148159L, 1000000000000000L}, {117775345204L, 30517578125L},
            {2322255689810133L, 1000000000000000L}, {45754843827L, 30517578125L}, {32767, 32768}, {20345030238L, 30517578125L},
            {428571422421897L, 1000000000000000L}, {7629394531L, 30517578125L}, {111111111111111L, 1000000000000000L}, {0, 1}};
        for (int odds = 0; odds <= 10; odds++) {
            mean(of(odds, 15), due[odds][0], due[odds][1]);
            mean(of(odds, 16), due[odds][0], due[odds][1]);
            mean(of(odds, 39), due[odds][0], due[odds][1]);
        }
    }

    private static void drawnToItsHold() {
        CHECK.due("odds 0, its hold of 1", of(0, 1).drawn(0, 0, 1), 1);
        CHECK.due("odds 0, its hold of 39", of(0, 39).drawn(0, 0, 1), 39);
        CHECK.due("odds 10, none", of(10, 39).drawn(1, 0, 1), 0);
        int[] ofOne = {0, 1, 1, 1, 1, 1};
        for (int seed = 0; seed < 6; seed++) {
            CHECK.due("a hold of 1, seed " + seed, of(2, 1).drawn(seed, 0, 1), ofOne[seed]);
        }
        CHECK.due("all 9", of(2, 9).drawn(2, 0, 1), 9);
        CHECK.due("all 9", of(2, 9).drawn(3, 1, 0), 9);
        CHECK.due("a draw that is odds is none below", of(1, 39).drawn(1, 0, 1), 6);
    }

    private static void seedsAtTheirEdges() {
        int[] seeds = {0, 1, 1999999999, 2000000000};
        int[] byOne = {0, 6, 7, 11};
        int[] byFive = {0, 2, 0, 0};
        for (int i = 0; i < 4; i++) {
            CHECK.due("odds 1, seed " + seeds[i], of(1, 39).drawn(seeds[i], 0, 1), byOne[i]);
            CHECK.due("odds 5, seed " + seeds[i], of(5, 39).drawn(seeds[i], 0, 1), byFive[i]);
        }
    }

    private static void luckAtItsEdges() {
        WristTreaty x = of(2, 9);
        int[] fromZero = {15, 8, 4, 0};
        int[] fromLast = {14, 7, 0, 0};
        for (int clause = 0; clause < 4; clause++) {
            CHECK.due("20 from 0, clause " + clause, x.luck(0, 20, 0, 1, clause), fromZero[clause]);
            CHECK.due("20 from the last seed, clause " + clause, x.luck(2000000000, 20, 1, 0, clause), fromLast[clause]);
        }
        CHECK.due("one from 0", x.luck(0, 1, 0, 1, 0), 0);
        CHECK.due("one from 2, just whole", x.luck(2, 1, 0, 1, 2), 1);
        CHECK.due("one from 2, longer than the hold", x.luck(2, 1, 0, 1, 3), 0);
        CHECK.due("one from the last seed", x.luck(2000000000, 1, 0, 1, 0), 1);
        CHECK.due("odds 0, just the hold", of(0, 10).luck(0, 20, 0, 1, 3), 20);
        CHECK.due("odds 0, one less", of(0, 9).luck(0, 20, 0, 1, 3), 0);
        CHECK.due("odds 10", of(10, 9).luck(0, 20, 0, 1, 0), 0);
    }
}
