/** Promises 1 to 7: the tape, the text of a gorge and its faults, men and clauses. */
public final class TextTest {
    private static final Check CHECK = new Check("TextTest");
    private static final String FIRST = "gorge far 4 far 6 odds 2;";
    private static final String MAN = "man on 0 grip 7 wits 3;";
    private static final String CLAUSE = "clause says 5 gives 8 takes 9;";
    private static final String WIND = "wind from 3 to 12;";

    public static void main(String[] args) {
        newObject();
        tape();
        wholeText();
        emptyText();
        tokens();
        firstLine();
        misplacedTokens();
        bounds();
        tooMany();
        faultStays();
        readsInPlaceOfAnother();
        CHECK.finish();
    }

    private static void newObject() {
        WristTreaty x = new WristTreaty();
        CHECK.due("NONE", WristTreaty.NONE, -1);
        CHECK.due("new fault(0)", x.fault(0), 0);
        CHECK.due("new fault(1)", x.fault(1), -1);
        CHECK.due("new fault(2)", x.fault(2), -1);
        CHECK.due("new fault(-1)", x.fault(-1), -1);
        for (int what = 0; what <= 10; what++) {
            CHECK.due("new count(" + what + ")", x.count(what), 0);
        }
        CHECK.due("new start(0)", x.start(0), -2);
        CHECK.due("new man(0, 0)", x.man(0, 0), -2);
        CHECK.due("new clause(0, 0)", x.clause(0, 0), -1000);
    }

    private static void tape() {
        WristTreaty x = new WristTreaty();
        CHECK.due("feed", x.feed(0x676f7267, 0x65206661, 0x72203266, 0x61723320, 0x6f646473), 20);
        CHECK.due("feed", x.feed(0x353b2020, 0x20202020, 0x20202020, 0x0a0a0a0a, 0x20202020), 40);
        CHECK.due("count(9)", x.count(9), 40);
        CHECK.due("end(41)", x.end(41), -1);
        CHECK.due("end(-1)", x.end(-1), -1);
        CHECK.due("count(9)", x.count(9), 40);
        CHECK.due("end(40)", x.end(40), 40);
        CHECK.due("end(22)", x.end(22), 22);
        CHECK.due("count(9)", x.count(9), 22);
        CHECK.due("end(23)", x.end(23), -1);
        CHECK.due("gorge()", x.gorge(), 1);
        CHECK.due("far of side 0", x.count(0), 2);
        CHECK.due("far of side 1", x.count(1), 3);
        CHECK.due("odds", x.count(2), 5);
        CHECK.due("tape is empty then", x.count(9), 0);
        for (int i = 1; i <= 40; i++) {
            CHECK.due("feed " + i, x.feed(i, 0, 0, 0, 0), 20 * i);
        }
        CHECK.due("feed beyond 800", x.feed(1, 1, 1, 1, 1), -1);
        CHECK.due("count(9)", x.count(9), 800);
        CHECK.due("end(781)", x.end(781), 781);
        CHECK.due("feed to 801", x.feed(1, 1, 1, 1, 1), -1);
        CHECK.due("count(9)", x.count(9), 781);
        CHECK.due("end(780)", x.end(780), 780);
        CHECK.due("feed to 800", x.feed(1, 1, 1, 1, 1), 800);
        CHECK.due("end(0)", x.end(0), 0);
    }

    private static void wholeText() {
        WristTreaty x = new WristTreaty();
        String text = FIRST + "\n" + MAN + "man on 1 grip 30 wits 0;pot 3;" + CLAUSE
                + "clause says 30 takes 99 gives 0; wind from 999 to 999; pot 20;clause says 1 takes 0 gives 99;";
        CHECK.due("gorge()", Check.read(x, text), 9);
        CHECK.due("fault(0)", x.fault(0), 0);
        CHECK.due("fault(1)", x.fault(1), -1);
        int[] counts = {4, 6, 2, 20, 2, 3, 1, 0, 9, 0, 0};
        for (int what = 0; what < counts.length; what++) {
            CHECK.due("count(" + what + ")", x.count(what), counts[what]);
        }
        CHECK.due("count(11)", x.count(11), -1);
        CHECK.due("count(-1)", x.count(-1), -1);
        int[][] men = {{0, 7, 3, -2}, {1, 30, 0, -2}, {-2, -2, -2, -2}};
        for (int man = 0; man < 3; man++) {
            for (int what = 0; what < 4; what++) {
                CHECK.due("man(" + man + ", " + what + ")", x.man(man, what), men[man][what]);
            }
        }
        CHECK.due("man(-1, 0)", x.man(-1, 0), -2);
        CHECK.due("man(0, -1)", x.man(0, -1), -2);
        int[][] clauses = {{5, 8, -9, -1000}, {30, -99, 0, -1000}, {1, 0, 99, -1000}, {-1000, -1000, -1000, -1000}};
        for (int clause = 0; clause < 4; clause++) {
            for (int what = 0; what < 4; what++) {
                CHECK.due("clause(" + clause + ", " + what + ")", x.clause(clause, what), clauses[clause][what]);
            }
        }
        CHECK.due("clause(-1, 0)", x.clause(-1, 0), -1000);
        CHECK.due("clause(0, -1)", x.clause(0, -1), -1000);
        CHECK.due("the most of all", Check.read(x, FIRST + MAN.repeat(8) + CLAUSE.repeat(7) + WIND.repeat(4)), 20);
        CHECK.due("man(7, 1)", x.man(7, 1), 7);
        CHECK.due("man(8, 1)", x.man(8, 1), -2);
        CHECK.due("clause(6, 0)", x.clause(6, 0), 5);
        CHECK.due("clause(7, 0)", x.clause(7, 0), -1000);
        CHECK.due("pot without", x.count(3), 0);
    }

    private static void emptyText() {
        WristTreaty x = Check.of(FIRST + MAN + CLAUSE + WIND + "pot 7;");
        CHECK.due("count(8)", x.count(8), 5);
        CHECK.due("push", x.push(0, 1), 1);
        CHECK.due("empty gorge()", x.gorge(), 0);
        for (int what = 0; what <= 10; what++) {
            CHECK.due("none, count(" + what + ")", x.count(what), 0);
        }
        CHECK.due("no gorge", x.start(0), -2);
        CHECK.due("man", x.man(0, 0), -2);
        Check.read(x, FIRST);
        CHECK.due("blanks alone", Check.read(x, " \n \n\n"), 0);
        CHECK.due("no lines", x.count(8), 0);
        CHECK.due("tape", x.count(9), 0);
        CHECK.due("no gorge", x.able(), -2);
    }

    private static void tokens() {
        read(FIRST.replace(" ", "\n\n "), 1);
        read("  " + FIRST + "  ", 1);
        read("gorge far4far6odds2;", 1);
        read("gorge far 0004 far 000000000000000000006 odds 2;", 1);
        fault("gorge\tfar 4 far 6 odds 2;", 1, 5);
        fault("gorge far\r4 far 6 odds 2;", 1, 9);
        fault("Gorge far 4 far 6 odds 2;", 1, 0);
        fault("gorge far 4 far 6 odds 2;" + (char) 0, 1, 25);
        fault("gorge far 4 far 6 odds 2;" + (char) 233, 1, 25);
        fault("gorge far 4 far 6 odds 2; " + (char) 128, 1, 26);
        fault("gorge far 4 far 6 odds -2;", 1, 23);
        fault("gorge far 4 far 6 odds 2:", 1, 24);
        fault("gorge far 4 far 6 odds 2 , ", 1, 25);
        fault("gorgefar 4 far 6 odds 2;", 1, 0);
        fault("gorg", 1, 0);
        fault("gorge far 99999999999999999999 far 6 odds 2;", 2, 10);
        fault("gorge far 4294967297 far 6 odds 2;", 2, 10);
    }

    private static void firstLine() {
        fault("man on 0 grip 7 wits 3;", 1, 0);
        fault(" pot 3;" + FIRST, 1, 1);
        fault("wind from 9 to 1;", 1, 0);
        fault(FIRST + FIRST, 1, 25);
        fault(FIRST + "pot 1;\ngorge", 1, 32);
        fault(FIRST + "rope 1;", 1, 25);
        fault(";", 1, 0);
        fault(FIRST + " ;", 1, 26);
        fault("7", 1, 0);
        fault(FIRST + "7", 1, 25);
        fault(FIRST + "far 4;", 1, 25);
    }

    private static void misplacedTokens() {
        fault("gorge", 1, 5);
        fault("gorge  \n", 1, 8);
        fault("gorge far", 1, 9);
        fault("gorge far 4", 1, 11);
        fault("gorge far 4 far 6 odds 2", 1, 24);
        fault("gorge far 4 far 6 odds 2 ", 1, 25);
        fault("gorge 4 far 6 odds 2;", 1, 6);
        fault("gorge far 4 odds 6 odds 2;", 1, 12);
        fault("gorge far 4 far 6 far 2;", 1, 18);
        fault("gorge far ; far 6 odds 2;", 1, 10);
        fault("gorge far 4 5 far 6 odds 2;", 1, 12);
        fault("gorge far 4 far 6 odds 2 2;", 1, 25);
        fault(FIRST + "man on 0 wits 3 grip 7;", 1, 34);
        fault(FIRST + "man grip", 1, 29);
        fault(FIRST + "clause says 5 gives 8;", 1, 46);
        fault(FIRST + "clause gives 5 gives 8 gives 8;", 1, 32);
        fault(FIRST + "clause takes 5 gives 8 gives 8;", 1, 32);
        fault(FIRST + "clause says 5 says 8 gives 8;", 1, 39);
        fault(FIRST + "clause says 5 gives 8 takes takes;", 1, 53);
        fault(FIRST + "wind from 3 from 12;", 1, 37);
        fault(FIRST + "wind from 3;", 1, 36);
        fault(FIRST + "wind from 3 to 4 to 5;", 1, 42);
        fault(FIRST + "pot is 3;", 1, 29);
        fault(FIRST + "pot;", 1, 28);
        fault(FIRST + "pot 3 3;", 1, 31);
        fault(FIRST + "pot 3", 1, 30);
    }

    private static void bounds() {
        number("gorge far ", 1, 20, " far 6 odds 2;");
        number("gorge far 4 far ", 1, 20, " odds 2;");
        number("gorge far 4 far 6 odds ", 0, 10, ";");
        number(FIRST + "man on ", 0, 1, " grip 7 wits 3;");
        number(FIRST + "man on 0 grip ", 1, 30, " wits 3;");
        number(FIRST + "man on 0 grip 7 wits ", 0, 9, ";");
        number(FIRST + "clause says ", 1, 30, " gives 8 gives 9;");
        number(FIRST + "clause says 5 gives ", 0, 99, " gives 9;");
        number(FIRST + "clause says 5 takes ", 0, 99, " gives 9;");
        number(FIRST + "clause says 5 takes 8 gives ", 0, 99, ";");
        number(FIRST + "clause says 5 takes 8 takes ", 0, 99, ";");
        number(FIRST + "wind from ", 0, 999, " to 999;");
        number(FIRST + "wind from 0 to ", 0, 999, ";");
        number(FIRST + "wind from 12 to ", 12, 999, ";");
        number(FIRST + "pot ", 0, 20, ";");
        fault("gorge far 0 far 6 odds 11;%", 2, 10);
    }

    private static void tooMany() {
        fault(FIRST + MAN.repeat(8) + " man", 3, 25 + 8 * 23 + 1);
        fault(FIRST + MAN.repeat(8) + "pot 1;" + MAN, 3, 25 + 8 * 23 + 6);
        fault(FIRST + CLAUSE.repeat(8), 3, 25 + 7 * 30);
        fault(FIRST + WIND.repeat(5), 3, 25 + 4 * 18);
        fault(FIRST + MAN.repeat(8) + "pot 21;" + MAN, 2, 25 + 8 * 23 + 4);
        read(FIRST + "pot 1;".repeat(100), 101);
    }

    private static void faultStays() {
        WristTreaty x = Check.of(FIRST + MAN + CLAUSE);
        CHECK.due("push", x.push(1, 2), 2);
        CHECK.due("faulty", Check.read(x, FIRST + "pot 21;"), -4);
        CHECK.due("fault(0)", x.fault(0), 2);
        CHECK.due("fault(1)", x.fault(1), 29);
        CHECK.due("fault(2)", x.fault(2), -1);
        CHECK.due("lines stay", x.count(8), 3);
        CHECK.due("acts stay", x.count(7), 1);
        CHECK.due("start stays", x.start(1), 2);
        CHECK.due("pot stays", x.count(3), 0);
        CHECK.due("tape stays", x.count(9), 32);
        x.end(29);
        Check.feed(x, "20;");
        CHECK.due("mended", x.gorge(), 2);
        CHECK.due("fault(0)", x.fault(0), 0);
        CHECK.due("fault(1)", x.fault(1), -1);
        CHECK.due("pot", x.count(3), 20);
    }

    private static void readsInPlaceOfAnother() {
        WristTreaty x = Check.of(FIRST + MAN + CLAUSE + WIND + "pot 4;");
        x.push(0, 3);
        CHECK.due("another", Check.read(x, "gorge far 9 far 8 odds 7;" + MAN.replace('7', '8')), 2);
        int[] counts = {9, 8, 7, 0, 1, 0, 0, 0, 2};
        for (int what = 0; what < counts.length; what++) {
            CHECK.due("another count(" + what + ")", x.count(what), counts[what]);
        }
        CHECK.due("nothing done", x.start(0), 0);
        CHECK.due("man(0, 1)", x.man(0, 1), 8);
        CHECK.due("clause(0, 0)", x.clause(0, 0), -1000);
    }

    private static void number(String ahead, int low, int high, String behind) {
        read(ahead + low + behind, ahead.startsWith(FIRST) ? 2 : 1);
        read(ahead + high + behind, ahead.startsWith(FIRST) ? 2 : 1);
        fault(ahead + (high + 1) + behind, 2, ahead.length());
        if (low > 0) {
            fault(ahead + (low - 1) + behind, 2, ahead.length());
        }
    }

    private static void read(String text, int lines) {
        WristTreaty x = new WristTreaty();
        CHECK.due(text, Check.read(x, text), lines);
        CHECK.due(text + " fault(0)", x.fault(0), 0);
        CHECK.due(text + " fault(1)", x.fault(1), -1);
    }

    private static void fault(String text, int number, int place) {
        WristTreaty x = new WristTreaty();
        CHECK.due(text, Check.read(x, text), -4);
        CHECK.due(text + " fault(0)", x.fault(0), number);
        CHECK.due(text + " fault(1)", x.fault(1), place);
        CHECK.due(text + " count(8)", x.count(8), 0);
    }
}
