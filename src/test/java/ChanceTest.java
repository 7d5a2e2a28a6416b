/** Promises 56 to 58, 66 and 67: chances of slips, and evenings drawn. */
public final class ChanceTest {
    private static final Check CHECK = new Check("ChanceTest");
    private static final String MEN = "man on 0 grip 10 wits 2; man on 0 grip 6 wits 5;"
            + "man on 1 grip 8 wits 1; man on 1 grip 12 wits 4; clause says 4 gives 0 gives 0; clause says 5 gives 0 gives 0;"
            + "clause says 10 gives 0 gives 0;";

    public static void main(String[] args) {
        refusals();
        chances();
        longChances();
        sure();
        means();
        draws();
        luck();
        CHECK.finish();
    }

    private static WristTreaty of(int odds) {
        return Check.of("gorge far 4 far 6 odds " + odds + ";" + MEN);
    }

    /** Two men who hold 39 beats. */
    private static WristTreaty ofStrong(int odds) {
        return Check.of("gorge far 4 far 6 odds " + odds + "; man on 0 grip 30 wits 9; man on 1 grip 30 wits 9;");
    }

    private static void refusals() {
        WristTreaty x = new WristTreaty();
        CHECK.due("no gorge chance", x.chance(0, 2, 1, 0), -2);
        CHECK.due("no gorge sure", x.sure(0, 2, 1), -2);
        CHECK.due("no gorge mean", x.mean(0, 2, 0), -2);
        CHECK.due("no gorge drawn", x.drawn(0, 0, 2), -2);
        CHECK.due("no gorge luck", x.luck(0, 1, 0, 2, 0), -2);
        x = of(2);
        CHECK.due("chance n 19", x.chance(0, 2, 19, 0), -2);
        CHECK.due("chance n -1", x.chance(0, 2, -1, 0), -2);
        CHECK.due("chance what 2", x.chance(0, 2, 1, 2), -2);
        CHECK.due("chance what -1", x.chance(0, 2, 1, -1), -2);
        CHECK.due("chance no man", x.chance(0, 4, 1, 0), -2);
        CHECK.due("chance one side", x.chance(0, 1, 0, 0), -1);
        CHECK.due("chance one side, n 19", x.chance(0, 1, 19, 0), -2);
        CHECK.due("sure p 101", x.sure(0, 2, 101), -2);
        CHECK.due("sure p -1", x.sure(0, 2, -1), -2);
        CHECK.due("sure no man", x.sure(-1, 2, 1), -2);
        CHECK.due("sure one side", x.sure(2, 3, 1), -1);
        CHECK.due("mean what 2", x.mean(0, 2, 2), -2);
        CHECK.due("mean what -1", x.mean(0, 2, -1), -2);
        CHECK.due("mean no man", x.mean(0, 9, 0), -2);
        CHECK.due("mean one side", x.mean(1, 0, 0), -1);
        CHECK.due("drawn seed -1", x.drawn(-1, 0, 2), -2);
        CHECK.due("drawn seed 2000000001", x.drawn(2000000001, 0, 2), -2);
        CHECK.due("drawn no man", x.drawn(5, 0, 4), -2);
        CHECK.due("drawn one side", x.drawn(5, 0, 0), -1);
        CHECK.due("luck seed -1", x.luck(-1, 1, 0, 2, 0), -2);
        CHECK.due("luck seed 2000000001", x.luck(2000000001, 1, 0, 2, 0), -2);
        CHECK.due("luck n 0", x.luck(0, 0, 0, 2, 0), -2);
        CHECK.due("luck n 21", x.luck(0, 21, 0, 2, 0), -2);
        CHECK.due("luck no man", x.luck(0, 1, 0, 4, 0), -2);
        CHECK.due("luck no clause", x.luck(0, 1, 0, 2, 3), -2);
        CHECK.due("luck clause -1", x.luck(0, 1, 0, 2, -1), -2);
        CHECK.due("luck one side", x.luck(0, 1, 0, 1, 0), -1);
    }

    private static void fraction(WristTreaty x, int n, long above, long below) {
        CHECK.due("chance(0, 2, " + n + ", 0)", x.chance(0, 2, n, 0), above);
        CHECK.due("chance(2, 0, " + n + ", 1)", x.chance(2, 0, n, 1), below);
    }

    private static void chances() {
        WristTreaty x = of(2);
        fraction(x, 0, 1, 1);
        fraction(x, 1, 4, 5);
        fraction(x, 2, 16, 25);
        fraction(x, 9, 262144, 1953125);
        fraction(x, 10, 0, 1);
        fraction(x, 18, 0, 1);
        x = of(0);
        fraction(x, 0, 1, 1);
        fraction(x, 9, 1, 1);
        fraction(x, 10, 0, 1);
        x = of(10);
        fraction(x, 0, 1, 1);
        fraction(x, 1, 0, 1);
        x = of(5);
        fraction(x, 3, 1, 8);
    }

    private static void longChances() {
        WristTreaty x = ofStrong(1);
        CHECK.due("9 to the 18th", x.chance(0, 1, 18, 0), 150094635296999121L);
        CHECK.due("10 to the 18th", x.chance(0, 1, 18, 1), 1000000000000000000L);
        x = ofStrong(5);
        CHECK.due("2 to the 18th", x.chance(0, 1, 18, 1), 262144L);
        x = ofStrong(8);
        CHECK.due("5 to the 18th", x.chance(0, 1, 18, 1), 3814697265625L);
    }

    private static void sure() {
        WristTreaty x = of(2);
        int[][] most = {{0, 9}, {13, 9}, {14, 8}, {16, 8}, {17, 7}, {64, 2}, {65, 1}, {80, 1}, {81, 0}, {100, 0}};
        for (int[] due : most) {
            CHECK.due("sure(0, 2, " + due[0] + ")", x.sure(0, 2, due[0]), due[1]);
        }
        CHECK.due("odds 0", of(0).sure(0, 2, 100), 9);
        CHECK.due("odds 10", of(10).sure(0, 2, 1), 0);
        CHECK.due("odds 10, p 0", of(10).sure(0, 2, 0), 9);
        CHECK.due("18 at most", ofStrong(0).sure(0, 1, 100), 18);
        CHECK.due("18 at most, p 0", ofStrong(9).sure(1, 0, 0), 18);
        CHECK.due("odds 1, p 15", ofStrong(1).sure(0, 1, 15), 18);
        CHECK.due("odds 1, p 16", ofStrong(1).sure(0, 1, 16), 17);
        CHECK.due("odds 9, p 1", ofStrong(9).sure(0, 1, 1), 2);
        CHECK.due("odds 9, p 10", ofStrong(9).sure(0, 1, 10), 1);
        CHECK.due("odds 9, p 11", ofStrong(9).sure(0, 1, 11), 0);
    }

    private static void means() {
        WristTreaty x = of(2);
        CHECK.due("mean(1, 2, 0)", x.mean(1, 2, 0), 246964);
        CHECK.due("mean(2, 1, 1)", x.mean(2, 1, 1), 78125);
        CHECK.due("odds 0, above", of(0).mean(1, 2, 0), 7);
        CHECK.due("odds 0, below", of(0).mean(1, 2, 1), 1);
        CHECK.due("odds 10, above", of(10).mean(1, 2, 0), 0);
        CHECK.due("odds 10, below", of(10).mean(1, 2, 1), 1);
        CHECK.due("the first 15", ofStrong(0).mean(0, 1, 0), 15);
        CHECK.due("odds 5, above", ofStrong(5).mean(0, 1, 0), 32767);
        CHECK.due("odds 5, below", ofStrong(5).mean(0, 1, 1), 32768);
        CHECK.due("odds 9, above", ofStrong(9).mean(0, 1, 0), 111111111111111L);
        CHECK.due("odds 9, below", ofStrong(9).mean(0, 1, 1), 1000000000000000L);
    }

    private static void draws() {
        int[] seeds = {0, 1, 2, 3, 4, 5, 6, 7, 8, 9, 10, 12345, 2000000000};
        int[] byTwo = {0, 4, 9, 9, 2, 9, 9, 4, 6, 3, 3, 6, 2};
        int[] byOne = {0, 6, 23, 15, 23, 9, 20, 7, 24, 21, 3, 8, 11};
        WristTreaty x = of(2);
        WristTreaty strong = ofStrong(1);
        for (int i = 0; i < seeds.length; i++) {
            CHECK.due("drawn(" + seeds[i] + ", 0, 2)", x.drawn(seeds[i], 0, 2), byTwo[i]);
            CHECK.due("drawn(" + seeds[i] + ", 1, 0) of 39", strong.drawn(seeds[i], 1, 0), byOne[i]);
        }
        CHECK.due("odds 0", of(0).drawn(0, 0, 2), 9);
        CHECK.due("odds 10", of(10).drawn(2, 0, 2), 0);
    }

    private static void luck() {
        WristTreaty x = of(2);
        CHECK.due("luck(0, 10, 0, 2, 0)", x.luck(0, 10, 0, 2, 0), 7);
        CHECK.due("luck(0, 10, 2, 0, 1)", x.luck(0, 10, 2, 0, 1), 5);
        CHECK.due("luck(0, 1, 0, 2, 0)", x.luck(0, 1, 0, 2, 0), 0);
        CHECK.due("luck(1, 1, 0, 2, 0)", x.luck(1, 1, 0, 2, 0), 1);
        CHECK.due("longer than the hold", x.luck(0, 20, 0, 2, 2), 0);
        CHECK.due("odds 0", of(0).luck(2000000000, 20, 0, 2, 0), 20);
    }
}
