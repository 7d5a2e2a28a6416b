/** Terms II and promises 8 to 18, sentence by sentence: every boundary that the document names for beats and meetings. */
public final class BeatsEdgesTest {
    private static final Check CHECK = new Check("BeatsEdgesTest");
    private static final int[] NO_SIDES = {-1, 2, Integer.MAX_VALUE, Integer.MIN_VALUE};
    // Both out in 0, 12, 24, ..
    private static final String CALM = "gorge far 4 far 6 odds 2;";
    // Both out in each beat, of which 5, 6 and 7 are windy.
    private static final String GUST = "gorge far 1 far 1 odds 0; wind from 5 to 7;";
    private static final String TWENTY = "gorge far 20 far 20 odds 0;";

    public static void main(String[] args) {
        start();
        out();
        windFromItsFirstToItsLastBeat();
        next();
        meetings();
        longest();
        able();
        soonest();
        often();
        kept();
        meet();
        pushes();
        CHECK.finish();
    }

    /** Numbers just below and just above what a call takes, and the farthest ones. */
    private static int[] beyond(int low, int high) {
        return new int[] {low - 1, high + 1, Integer.MIN_VALUE, Integer.MAX_VALUE};
    }

    private static void start() {
        WristTreaty x = Check.of(CALM);
        for (int side : NO_SIDES) {
            CHECK.due("start(" + side + ")", x.start(side), -2);
        }
        CHECK.due("0 at first", x.start(0), 0);
        CHECK.due("0 at first", x.start(1), 0);
        CHECK.due("far less 1", x.push(0, 3), 3);
        CHECK.due("start(0)", x.start(0), 3);
        CHECK.due("of the other one", x.start(1), 0);
        CHECK.due("round to 0", x.push(0, 1), 0);
        CHECK.due("start(0)", x.start(0), 0);
        CHECK.due("far less 1", x.push(1, 5), 5);
        CHECK.due("start(1)", x.start(1), 5);
        CHECK.due("round four times", x.push(1, 19), 0);
        CHECK.due("start(1)", x.start(1), 0);
        CHECK.due("start(0)", x.start(0), 0);
        x = Check.of("gorge far 1 far 20 odds 0;");
        CHECK.due("a far of 1", x.push(0, 19), 0);
        CHECK.due("a far of 20", x.push(1, 19), 19);
        CHECK.due("round by 1", x.push(1, 1), 0);
    }

    private static void out() {
        WristTreaty x = Check.of(CALM);
        for (int side : NO_SIDES) {
            CHECK.due("out(" + side + ", 0)", x.out(side, 0), -2);
        }
        for (int beat : beyond(0, 2000000000)) {
            CHECK.due("out(0, " + beat + ")", x.out(0, beat), -2);
            CHECK.due("out(1, " + beat + ")", x.out(1, beat), -2);
        }
        CHECK.due("out(0, 0)", x.out(0, 0), 1);
        CHECK.due("out(0, 2000000000)", x.out(0, 2000000000), 1);
        CHECK.due("out(0, 1999999999)", x.out(0, 1999999999), 0);
        CHECK.due("out(1, 2000000000)", x.out(1, 2000000000), 0);
        CHECK.due("out(1, 1999999998)", x.out(1, 1999999998), 1);
        x.push(0, 3);
        CHECK.due("ahead of its start", x.out(0, 0), 0);
        CHECK.due("ahead of its start", x.out(0, 1), 0);
        CHECK.due("ahead of its start", x.out(0, 2), 0);
        CHECK.due("its start", x.out(0, 3), 1);
        CHECK.due("a far later", x.out(0, 7), 1);
        CHECK.due("the last beat", x.out(0, 1999999999), 1);
        CHECK.due("a wind keeps nobody in", Check.of(GUST).out(0, 6), 1);
    }

    private static void windFromItsFirstToItsLastBeat() {
        WristTreaty x = Check.of(GUST);
        int[] nexts = {4, 8, 8, 8, 8, 9};
        int[] counts = {5, 5, 5, 5, 6, 7};
        int[] pushes = {0, -1, -1, -1, 0, 0};
        for (int i = 0; i < 6; i++) {
            CHECK.due("next(" + (4 + i) + ")", x.next(4 + i), nexts[i]);
            CHECK.due("meetings(" + (4 + i) + ")", x.meetings(4 + i), counts[i]);
            CHECK.due("pushes(" + (4 + i) + ")", x.pushes(4 + i), pushes[i]);
        }
        CHECK.due("meet(4)", x.meet(4), 4);
        CHECK.due("meet(5)", x.meet(5), 8);
        CHECK.due("longest()", x.longest(), 4);
        CHECK.due("kept()", x.kept(), 3);
        x = Check.of("gorge far 1 far 1 odds 0; wind from 999 to 999; wind from 0 to 0;");
        CHECK.due("beat 0 alone", x.next(0), 1);
        CHECK.due("beat 998", x.next(998), 998);
        CHECK.due("beat 999 alone", x.next(999), 1000);
        CHECK.due("pushes(1000)", x.pushes(1000), 0);
        CHECK.due("kept()", x.kept(), 2);
    }

    private static void next() {
        WristTreaty x = Check.of(CALM);
        for (int beat : beyond(0, 5000)) {
            CHECK.due("next(" + beat + ")", x.next(beat), -2);
        }
        CHECK.due("it, too", x.next(0), 0);
        CHECK.due("next(1)", x.next(1), 12);
        CHECK.due("next(12)", x.next(12), 12);
        CHECK.due("next(5000)", x.next(5000), 5004);
        x.push(0, 1);
        CHECK.due("none", x.next(0), -1);
        CHECK.due("none", x.next(5000), -1);
    }

    private static void meetings() {
        WristTreaty x = Check.of(CALM);
        for (int n : beyond(0, 10000)) {
            CHECK.due("meetings(" + n + ")", x.meetings(n), -2);
        }
        CHECK.due("beat 0, too", x.meetings(0), 1);
        CHECK.due("meetings(11)", x.meetings(11), 1);
        CHECK.due("beat n, too", x.meetings(12), 2);
        x = Check.of(TWENTY);
        CHECK.due("meetings(9999)", x.meetings(9999), 500);
        CHECK.due("beat 10,000, too", x.meetings(10000), 501);
        x.push(0, 1);
        CHECK.due("none", x.meetings(10000), 0);
        x.push(1, 1);
        CHECK.due("beat 10,001 no more", x.meetings(10000), 500);
    }

    private static void longest() {
        WristTreaty x = Check.of(TWENTY);
        CHECK.due("of one far", x.longest(), 20);
        x.push(0, 1);
        CHECK.due("there are not two", x.longest(), -1);
        x = Check.of("gorge far 20 far 19 odds 0; wind from 0 to 999;");
        CHECK.due("1140, 1520 and 1900", x.longest(), 380);
        x = Check.of("gorge far 20 far 19 odds 0; wind from 1 to 999;");
        CHECK.due("0, then 1140", x.longest(), 1140);
        x = Check.of("gorge far 1 far 1 odds 0;");
        CHECK.due("one beat", x.longest(), 1);
    }

    private static void able() {
        CHECK.due("of one far", Check.of(TWENTY).able(), 1);
        CHECK.due("far 1", Check.of("gorge far 1 far 20 odds 0;").able(), 1);
        CHECK.due("all of 20", Check.of("gorge far 20 far 1 odds 0;").able(), 20);
        CHECK.due("two of 4", Check.of(CALM).able(), 2);
        CHECK.due("three of 6", Check.of("gorge far 6 far 4 odds 2;").able(), 3);
        CHECK.due("winds aside", Check.of(CALM + "wind from 0 to 999;").able(), 2);
        WristTreaty x = Check.of(CALM);
        x.push(0, 1);
        CHECK.due("whatever its own start", x.able(), 2);
    }

    private static void soonest() {
        WristTreaty x = Check.of("gorge far 20 far 3 odds 0; wind from 0 to 7;");
        CHECK.due("in beat 9", x.soonest(), 9);
        x.push(1, 2);
        CHECK.due("in beat 8", x.soonest(), 8);
        x.push(0, 5);
        CHECK.due("whatever its own start", x.soonest(), 8);
        x = Check.of("gorge far 3 far 20 odds 0; wind from 0 to 7;");
        CHECK.due("in beat 20", x.soonest(), 2);
        x = Check.of("gorge far 20 far 20 odds 0; wind from 0 to 999;");
        x.push(1, 19);
        CHECK.due("far less 1", x.soonest(), 19);
        x = Check.of(CALM);
        CHECK.due("from beat 0 on, it, too", x.soonest(), 0);
    }

    private static void often() {
        WristTreaty x = Check.of("gorge far 20 far 3 odds 0; wind from 0 to 7;");
        for (int n : beyond(0, 2000)) {
            CHECK.due("often(" + n + ")", x.often(n), -2);
        }
        CHECK.due("none", x.often(0), -1);
        CHECK.due("none", x.often(8), -1);
        CHECK.due("beat n, too", x.often(9), 9);
        CHECK.due("the least of several", x.often(12), 9);
        CHECK.due("the least of several", x.often(18), 9);
        CHECK.due("0 is less", x.often(60), 0);
        // One in 60 beats: 34 by the starts 9, 12, 15 and 18, 33 by all others.
        CHECK.due("often(2000)", x.often(2000), 9);
        x = Check.of("gorge far 1 far 1 odds 0;");
        CHECK.due("beat 0", x.often(0), 0);
        x = Check.of("gorge far 2 far 2 odds 0; wind from 0 to 999;");
        x.push(1, 1);
        CHECK.due("no beat to 1,000", x.often(1000), -1);
        CHECK.due("1,001", x.often(1001), 1);
    }

    private static void kept() {
        CHECK.due("no wind", Check.of(CALM).kept(), 0);
        CHECK.due("a wind in which they are not out", Check.of(CALM + "wind from 1 to 11;").kept(), 0);
        CHECK.due("its first", Check.of(CALM + "wind from 12 to 23;").kept(), 1);
        CHECK.due("its last", Check.of(CALM + "wind from 1 to 12;").kept(), 1);
        CHECK.due("both", Check.of(CALM + "wind from 0 to 12;").kept(), 2);
        CHECK.due("two winds in one beat", Check.of(CALM + "wind from 0 to 12; wind from 12 to 12;").kept(), 2);
        CHECK.due("four winds", Check.of(CALM + "wind from 0 to 0; wind from 12 to 12; wind from 24 to 24; wind from 36 to 36;").kept(), 4);
        CHECK.due("the longest", Check.of("gorge far 1 far 1 odds 0; wind from 0 to 999;").kept(), 1000);
        CHECK.due("beat 999", Check.of("gorge far 3 far 9 odds 0; wind from 991 to 999;").kept(), 1);
        WristTreaty x = Check.of("gorge far 2 far 2 odds 0; wind from 0 to 999;");
        x.push(0, 1);
        CHECK.due("never both out", x.kept(), 0);
    }

    private static void meet() {
        WristTreaty x = Check.of(TWENTY);
        for (int n : beyond(0, 999)) {
            CHECK.due("meet(" + n + ")", x.meet(n), -2);
        }
        CHECK.due("the first", x.meet(0), 0);
        CHECK.due("beat 9,980", x.meet(499), 9980);
        CHECK.due("beat 10,000, too", x.meet(500), 10000);
        CHECK.due("beyond", x.meet(501), -1);
        CHECK.due("not so many", x.meet(999), -1);
        x.push(0, 1);
        CHECK.due("none", x.meet(0), -1);
        x.push(1, 1);
        CHECK.due("beat 9,981", x.meet(499), 9981);
        CHECK.due("10,001 is beyond", x.meet(500), -1);
        x = Check.of("gorge far 10 far 10 odds 0;");
        CHECK.due("the 1,000th", x.meet(999), 9990);
        CHECK.due("no such n", x.meet(1000), -2);
    }

    private static void pushes() {
        WristTreaty x = Check.of("gorge far 20 far 1 odds 0;");
        for (int beat : beyond(0, 10000)) {
            CHECK.due("pushes(" + beat + ")", x.pushes(beat), -2);
        }
        CHECK.due("none are needed", x.pushes(0), 0);
        CHECK.due("far less 1", x.pushes(19), 19);
        CHECK.due("a far on", x.pushes(20), 0);
        CHECK.due("beat 10,000", x.pushes(10000), 0);
        x.push(0, 1);
        CHECK.due("far less 1, from 1", x.pushes(0), 19);
        CHECK.due("none, from 1", x.pushes(1), 0);
        CHECK.due("beat 10,000, from 1", x.pushes(10000), 19);
        x = Check.of(CALM);
        CHECK.due("the other one is not out", x.pushes(5), -1);
        x.push(1, 1);
        CHECK.due("the other one's start", x.pushes(7), 3);
        CHECK.due("the other one's start", x.pushes(1), 1);
        CHECK.due("less its start, not more", x.pushes(5), -1);
        CHECK.due("its own far does not matter", x.pushes(0), -1);
        CHECK.due("asked, not pushed", x.count(7), 1);
    }
}
