/** Promises 8 to 18: starts, beats in which both are out, meetings and pushes. */
public final class BeatsTest {
    private static final Check CHECK = new Check("BeatsTest");
    private static final String WINDY = "gorge far 4 far 6 odds 2; wind from 0 to 5; wind from 24 to 30;";

    public static void main(String[] args) {
        withoutGorge();
        outs();
        meetings();
        startsOfSide0();
        pushes();
        startsMoved();
        neverMeeting();
        everyBeat();
        overlappingWinds();
        CHECK.finish();
    }

    private static void withoutGorge() {
        WristTreaty x = new WristTreaty();
        CHECK.due("start", x.start(0), -2);
        CHECK.due("out", x.out(0, 0), -2);
        CHECK.due("next", x.next(0), -2);
        CHECK.due("meetings", x.meetings(0), -2);
        CHECK.due("longest", x.longest(), -2);
        CHECK.due("able", x.able(), -2);
        CHECK.due("soonest", x.soonest(), -2);
        CHECK.due("often", x.often(0), -2);
        CHECK.due("kept", x.kept(), -2);
        CHECK.due("meet", x.meet(0), -2);
        CHECK.due("pushes", x.pushes(0), -2);
    }

    private static void outs() {
        WristTreaty x = Check.of(WINDY);
        CHECK.due("start(0)", x.start(0), 0);
        CHECK.due("start(1)", x.start(1), 0);
        CHECK.due("start(2)", x.start(2), -2);
        CHECK.due("start(-1)", x.start(-1), -2);
        CHECK.due("out(0, 0)", x.out(0, 0), 1);
        CHECK.due("out(0, 6)", x.out(0, 6), 0);
        CHECK.due("out(1, 6)", x.out(1, 6), 1);
        CHECK.due("out(1, 4)", x.out(1, 4), 0);
        CHECK.due("out(0, 2000000000)", x.out(0, 2000000000), 1);
        CHECK.due("out(1, 2000000000)", x.out(1, 2000000000), 0);
        CHECK.due("out(1, 1999999998)", x.out(1, 1999999998), 1);
        CHECK.due("out(0, 2000000001)", x.out(0, 2000000001), -2);
        CHECK.due("out(0, -1)", x.out(0, -1), -2);
        CHECK.due("out(0, -4)", x.out(0, -4), -2);
        CHECK.due("out(2, 0)", x.out(2, 0), -2);
        CHECK.due("out(-1, 0)", x.out(-1, 0), -2);
    }

    private static void meetings() {
        WristTreaty x = Check.of(WINDY);
        CHECK.due("next(0)", x.next(0), 12);
        CHECK.due("next(12)", x.next(12), 12);
        CHECK.due("next(13)", x.next(13), 36);
        CHECK.due("next(5000)", x.next(5000), 5004);
        CHECK.due("next(5001)", x.next(5001), -2);
        CHECK.due("next(-1)", x.next(-1), -2);
        CHECK.due("meetings(0)", x.meetings(0), 0);
        CHECK.due("meetings(11)", x.meetings(11), 0);
        CHECK.due("meetings(12)", x.meetings(12), 1);
        CHECK.due("meetings(35)", x.meetings(35), 1);
        CHECK.due("meetings(36)", x.meetings(36), 2);
        CHECK.due("meetings(10000)", x.meetings(10000), 832);
        CHECK.due("meetings(10001)", x.meetings(10001), -2);
        CHECK.due("meetings(-1)", x.meetings(-1), -2);
        CHECK.due("longest()", x.longest(), 24);
        CHECK.due("kept()", x.kept(), 2);
        CHECK.due("meet(0)", x.meet(0), 12);
        CHECK.due("meet(1)", x.meet(1), 36);
        CHECK.due("meet(2)", x.meet(2), 48);
        CHECK.due("meet(831)", x.meet(831), 9996);
        CHECK.due("meet(832)", x.meet(832), -1);
        CHECK.due("meet(999)", x.meet(999), -1);
        CHECK.due("meet(1000)", x.meet(1000), -2);
        CHECK.due("meet(-1)", x.meet(-1), -2);
        x = Check.of("gorge far 20 far 19 odds 0;");
        CHECK.due("far ones longest()", x.longest(), 380);
        CHECK.due("far ones meetings(10000)", x.meetings(10000), 27);
        x = Check.of("gorge far 20 far 19 odds 0; wind from 300 to 800;");
        CHECK.due("blown longest()", x.longest(), 1140);
        CHECK.due("blown kept()", x.kept(), 2);
        x = Check.of("gorge far 2 far 5 odds 0;");
        CHECK.due("beat 10,000 too", x.meetings(10000), 1001);
        CHECK.due("beat 9,999", x.meetings(9999), 1000);
        CHECK.due("meet(999)", x.meet(999), 9990);
    }

    private static void startsOfSide0() {
        WristTreaty x = Check.of(WINDY);
        CHECK.due("able()", x.able(), 2);
        CHECK.due("soonest()", x.soonest(), 2);
        CHECK.due("often(0)", x.often(0), -1);
        CHECK.due("often(5)", x.often(5), -1);
        CHECK.due("often(6)", x.often(6), 2);
        CHECK.due("often(12)", x.often(12), 0);
        CHECK.due("often(18)", x.often(18), 2);
        CHECK.due("often(2000)", x.often(2000), 2);
        CHECK.due("often(2001)", x.often(2001), -2);
        CHECK.due("often(-1)", x.often(-1), -2);
        x.push(1, 3);
        CHECK.due("able() by another start", x.able(), 2);
        CHECK.due("soonest() by another start", x.soonest(), 1);
        CHECK.due("often(9) by another start", x.often(9), 1);
        CHECK.due("often(8) by another start", x.often(8), -1);
        CHECK.due("asked, not pushed", x.start(0), 0);
        x = Check.of("gorge far 20 far 3 odds 0;");
        CHECK.due("able() of primes", x.able(), 20);
        x = Check.of("gorge far 20 far 20 odds 0;");
        CHECK.due("able() of one far", x.able(), 1);
        x = Check.of("gorge far 3 far 5 odds 0;");
        CHECK.due("soonest() at once", x.soonest(), 0);
    }

    private static void pushes() {
        WristTreaty x = Check.of(WINDY);
        CHECK.due("pushes(6)", x.pushes(6), 2);
        CHECK.due("pushes(12)", x.pushes(12), 0);
        CHECK.due("pushes(18)", x.pushes(18), 2);
        CHECK.due("pushes(7)", x.pushes(7), -1);
        CHECK.due("pushes(0)", x.pushes(0), -1);
        CHECK.due("pushes(30)", x.pushes(30), -1);
        CHECK.due("pushes(9996)", x.pushes(9996), 0);
        CHECK.due("pushes(10000)", x.pushes(10000), -1);
        CHECK.due("pushes(10001)", x.pushes(10001), -2);
        CHECK.due("pushes(-1)", x.pushes(-1), -2);
        x.push(0, 3);
        CHECK.due("pushes(6) from 3", x.pushes(6), 3);
        CHECK.due("pushes(12) from 3", x.pushes(12), 1);
    }

    private static void startsMoved() {
        WristTreaty x = Check.of(WINDY);
        CHECK.due("push(0, 19)", x.push(0, 19), 3);
        CHECK.due("out(0, 3)", x.out(0, 3), 1);
        CHECK.due("out(0, 0)", x.out(0, 0), 0);
        CHECK.due("out(0, 2)", x.out(0, 2), 0);
        CHECK.due("out(0, 7)", x.out(0, 7), 1);
        CHECK.due("push(1, 1)", x.push(1, 1), 1);
        CHECK.due("next(0)", x.next(0), 7);
        CHECK.due("next(8)", x.next(8), 19);
        CHECK.due("kept()", x.kept(), 0);
        CHECK.due("meetings(31)", x.meetings(31), 3);
    }

    private static void neverMeeting() {
        WristTreaty x = Check.of(WINDY);
        x.push(0, 1);
        CHECK.due("next", x.next(0), -1);
        CHECK.due("meetings", x.meetings(10000), 0);
        CHECK.due("longest", x.longest(), -1);
        CHECK.due("kept", x.kept(), 0);
        CHECK.due("meet", x.meet(0), -1);
        CHECK.due("able", x.able(), 2);
        CHECK.due("pushes", x.pushes(12), 3);
    }

    private static void everyBeat() {
        WristTreaty x = Check.of("gorge far 1 far 1 odds 0; wind from 0 to 999;");
        CHECK.due("next(0)", x.next(0), 1000);
        CHECK.due("meetings(999)", x.meetings(999), 0);
        CHECK.due("meetings(10000)", x.meetings(10000), 9001);
        CHECK.due("longest()", x.longest(), 1);
        CHECK.due("kept()", x.kept(), 1000);
        CHECK.due("meet(999)", x.meet(999), 1999);
        CHECK.due("able()", x.able(), 1);
        CHECK.due("soonest()", x.soonest(), 0);
        CHECK.due("often(999)", x.often(999), -1);
        CHECK.due("often(1000)", x.often(1000), 0);
        CHECK.due("pushes(1000)", x.pushes(1000), 0);
        CHECK.due("pushes(999)", x.pushes(999), -1);
    }

    private static void overlappingWinds() {
        WristTreaty x = Check.of("gorge far 1 far 2 odds 0; wind from 2 to 6; wind from 4 to 8; wind from 4 to 4;");
        CHECK.due("kept()", x.kept(), 4);
        CHECK.due("meetings(10)", x.meetings(10), 2);
        CHECK.due("next(1)", x.next(1), 10);
        CHECK.due("longest()", x.longest(), 10);
    }
}
