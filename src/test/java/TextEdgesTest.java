import java.util.List;
import java.util.function.ToIntFunction;

/** Terms I and promises 1 to 7, sentence by sentence: every boundary that the document names for the tape and its text. */
public final class TextEdgesTest {
    private static final Check CHECK = new Check("TextEdgesTest");
    private static final String FIRST = "gorge far 4 far 6 odds 2;";
    // Both are out in each beat, so that kept() tells how long winds blow.
    private static final String ALL = "gorge far 1 far 1 odds 0;";
    private static final String MAN = "man on 0 grip 7 wits 3;";
    private static final String CLAUSE = "clause says 5 gives 8 takes 9;";
    private static final String WIND = "wind from 3 to 12;";

    public static void main(String[] args) {
        gorgeIsTheFirstLineAndNoOther();
        boundsOfNumbers();
        windsLastBeatNoLessThanItsFirst();
        laterPotStrikes();
        numberedAsTheyStand();
        everyByteBetweenTokens();
        everyByteAtBothEnds();
        theLongestToken();
        everyTokenInEveryPlace();
        placeOfTheEnd();
        firstByItsPlace();
        ofOnePlaceTheLeast();
        oneTooMany();
        highestByteFirst();
        fullTape();
        cutTape();
        gorgeOfNoLines();
        gorgeInPlaceOfAnother();
        faultOfTheLatest();
        menAndClausesAskedFor();
        CHECK.finish();
    }

    private static WristTreaty read(String text, int lines) {
        WristTreaty x = new WristTreaty();
        CHECK.due(text, Check.read(x, text), lines);
        CHECK.due(text + " fault(0)", x.fault(0), 0);
        CHECK.due(text + " fault(1)", x.fault(1), -1);
        CHECK.due(text + " empty then", x.count(9), 0);
        return x;
    }

    private static void fault(String text, int number, int place) {
        WristTreaty x = new WristTreaty();
        CHECK.due(text, Check.read(x, text), -4);
        CHECK.due(text + " fault(0)", x.fault(0), number);
        CHECK.due(text + " fault(1)", x.fault(1), place);
    }

    /** A number at both bounds is read and told; one beyond either is fault 2 at its place. */
    private static void bounds(String ahead, int low, int high, String behind, ToIntFunction<WristTreaty> told) {
        int lines = ahead.contains(";") ? 2 : 1;
        CHECK.due(ahead + low, told.applyAsInt(read(ahead + low + behind, lines)), low);
        CHECK.due(ahead + high, told.applyAsInt(read(ahead + high + behind, lines)), high);
        fault(ahead + (high + 1) + behind, 2, ahead.length());
        fault(ahead + "2147483648" + behind, 2, ahead.length());
        fault(ahead + "4294967297" + behind, 2, ahead.length());
        fault(ahead + "18446744073709551617" + behind, 2, ahead.length());
        if (low > 0) {
            fault(ahead + (low - 1) + behind, 2, ahead.length());
        }
    }

    private static void gorgeIsTheFirstLineAndNoOther() {
        for (String other : new String[] {MAN, CLAUSE, WIND, "pot 3;"}) {
            fault(other, 1, 0);
            fault(" " + other + FIRST, 1, 1);
            fault(FIRST + other + FIRST, 1, 25 + other.length());
            read(FIRST + other, 2);
        }
        fault(FIRST + "gorge", 1, 25);
    }

    private static void boundsOfNumbers() {
        bounds("gorge far ", 1, 20, " far 6 odds 2;", x -> x.count(0));
        bounds("gorge far 4 far ", 1, 20, " odds 2;", x -> x.count(1));
        bounds("gorge far 4 far 6 odds ", 0, 10, ";", x -> x.count(2));
        bounds(FIRST + "man on ", 0, 1, " grip 7 wits 3;", x -> x.man(0, 0));
        bounds(FIRST + "man on 0 grip ", 1, 30, " wits 3;", x -> x.man(0, 1));
        bounds(FIRST + "man on 0 grip 7 wits ", 0, 9, ";", x -> x.man(0, 2));
        bounds(FIRST + "clause says ", 1, 30, " gives 8 gives 9;", x -> x.clause(0, 0));
        bounds(FIRST + "clause says 5 gives ", 0, 99, " takes 9;", x -> x.clause(0, 1));
        bounds(FIRST + "clause says 5 takes ", 0, 99, " gives 9;", x -> -x.clause(0, 1));
        bounds(FIRST + "clause says 5 takes 8 gives ", 0, 99, ";", x -> x.clause(0, 2));
        bounds(FIRST + "clause says 5 gives 8 takes ", 0, 99, ";", x -> -x.clause(0, 2));
        bounds(ALL + "wind from ", 0, 999, " to 999;", x -> 1000 - x.kept());
        bounds(ALL + "wind from 0 to ", 0, 999, ";", x -> x.kept() - 1);
        bounds(FIRST + "pot ", 0, 20, ";", x -> x.count(3));
    }

    private static void windsLastBeatNoLessThanItsFirst() {
        String every = ALL + "wind from ";
        CHECK.due("0 to 0 blows once", read(every + "0 to 0;", 2).kept(), 1);
        CHECK.due("999 to 999 blows once", read(every + "999 to 999;", 2).kept(), 1);
        CHECK.due("0 to 999 blows in all", read(every + "0 to 999;", 2).kept(), 1000);
        CHECK.due("12 to 12", read(every + "12 to 12;", 2).kept(), 1);
        CHECK.due("12 to 13", read(every + "12 to 13;", 2).kept(), 2);
        fault(every + "12 to 11;", 2, every.length() + 6);
        fault(every + "1 to 0;", 2, every.length() + 5);
        fault(every + "999 to 1000;", 2, every.length() + 7);
        fault(every + "1000 to 1000;", 2, every.length());
        fault(every + "999 to 0;", 2, every.length() + 7);
    }

    private static void laterPotStrikes() {
        CHECK.due("without", read(FIRST, 1).count(3), 0);
        CHECK.due("a greater one", read(FIRST + "pot 3;pot 5;", 3).count(3), 5);
        CHECK.due("a lesser one", read(FIRST + "pot 5;" + MAN + "pot 3;", 4).count(3), 3);
        CHECK.due("0", read(FIRST + "pot 5;pot 0;", 3).count(3), 0);
        CHECK.due("behind what takes", read(FIRST + "clause says 1 gives 1 takes 5;pot 3;", 3).count(3), 3);
    }

    private static void numberedAsTheyStand() {
        WristTreaty x = read(FIRST + "clause says 1 gives 1 gives 1;man on 1 grip 11 wits 1;wind from 1 to 1;pot 1;"
                + "man on 0 grip 12 wits 2;clause says 2 takes 2 takes 2;man on 1 grip 13 wits 3;", 8);
        for (int man = 0; man < 3; man++) {
            CHECK.due("grip of man " + man, x.man(man, 1), 11 + man);
            CHECK.due("wits of man " + man, x.man(man, 2), 1 + man);
        }
        CHECK.due("side of man 0", x.man(0, 0), 1);
        CHECK.due("side of man 1", x.man(1, 0), 0);
        CHECK.due("men", x.count(4), 3);
        CHECK.due("clauses", x.count(5), 2);
        CHECK.due("winds", x.count(6), 1);
        CHECK.due("clause 0", x.clause(0, 0), 1);
        CHECK.due("clause 1", x.clause(1, 0), 2);
        CHECK.due("clause 1 takes of side 0", x.clause(1, 1), -2);
        CHECK.due("clause 1 takes of side 1", x.clause(1, 2), -2);
        String[] lines = {MAN, CLAUSE, WIND};
        for (int line = 0; line < 3; line++) {
            x = read(FIRST + lines[line], 2);
            for (int what = 4; what <= 6; what++) {
                CHECK.due(lines[line] + " counts as itself alone", x.count(what), what == 4 + line ? 1 : 0);
            }
            CHECK.due(lines[line] + " fills no pot", x.count(3), 0);
        }
    }

    private static boolean isBlank(int b) {
        return b == 32 || b == 10;
    }

    private static boolean isLetter(int b) {
        return b >= 'a' && b <= 'z';
    }

    /** A text whose bytes 0 to 255 are its signs. */
    private static void told(String text, boolean isRead, int place) {
        if (isRead) {
            read(text, 1);
        } else {
            fault(text, 1, place);
        }
    }

    private static void everyByteBetweenTokens() {
        for (int b = 0; b < 256; b++) {
            told("gorge" + (char) b + "far 4 far 6 odds 2;", isBlank(b), isLetter(b) ? 0 : 5);
            told("gorge far 1" + (char) b + "far 6 odds 2;", isBlank(b) || b >= '0' && b <= '9', 11);
            told("gorge far 4 far 6 odds 0" + (char) b + " ;", isBlank(b) || b >= '0' && b <= '9', b == ';' ? 26 : 24);
        }
    }

    private static void everyByteAtBothEnds() {
        for (int b = 0; b < 256; b++) {
            told((char) b + FIRST, isBlank(b), 0);
            told(FIRST + (char) b, isBlank(b), 25);
            told(FIRST + "\n \n" + (char) b, isBlank(b), 28);
        }
    }

    private static void theLongestToken() {
        read("gorge far4far6odds2;", 1);
        read("gorge far 0000000000000000000000000000000000004 far 06 odds 00;", 1);
        read("gorge\nfar\n\n4 far  6 odds 2 ;\n", 1);
        fault("gorgefar 4 far 6 odds 2;", 1, 0);
        fault("gorg", 1, 0);
        fault("gorges far 4 far 6 odds 2;", 1, 0);
        fault("gorge far 1 2 far 6 odds 2;", 1, 12);
        fault("gorge fa r 4 far 6 odds 2;", 1, 6);
        fault(FIRST + "manon 0 grip 7 wits 3;", 1, 25);
        fault(FIRST + "xan on 0 grip 7 wits 3;", 1, 25);
        fault(FIRST + "pou 3;", 1, 25);
        fault(FIRST + "po 3;", 1, 25);
        fault(FIRST + "pots 3;", 1, 25);
        fault(FIRST + ";", 1, 25);
        fault("gorge far 4 far 6 odds 2;;", 1, 25);
    }

    /** Of all tokens those alone can stand in a place that the line has there; the others are fault 1 at that place. */
    private static void everyTokenInEveryPlace() {
        String[] lines = {"gorge far 4 far 6 odds 2 ;", "man on 0 grip 7 wits 3 ;", "clause says 5 gives 8 takes 9 ;",
            "wind from 3 to 12 ;", "pot 3 ;"};
        String[] words = {"gorge", "man", "clause", "wind", "pot", "far", "odds", "on", "grip", "wits", "says", "gives", "takes",
            "from", "to", "x", ";"};
        for (int line = 0; line < lines.length; line++) {
            String[] tokens = lines[line].split(" ");
            String ahead = line == 0 ? "" : FIRST;
            for (String token : tokens) {
                for (String word : words) {
                    boolean canStand = canStand(token, word, ahead.isEmpty(), ahead.endsWith(";"));
                    int place = ahead.length();
                    if (!canStand) {
                        fault(ahead + word + " #", 1, place);
                    } else if (!word.equals(";")) {
                        fault(ahead + word + " #", 1, place + word.length() + 1);
                    }
                }
                if (!Character.isDigit(token.charAt(0))) {
                    fault(ahead + "7 #", 1, ahead.length());
                }
                ahead = ahead + token + (token.equals(";") ? "" : " ");
            }
        }
    }

    private static boolean canStand(String token, String word, boolean isFirst, boolean isLineDue) {
        if (isLineDue && !isFirst) {
            return List.of("man", "clause", "wind", "pot").contains(word);
        }
        boolean isGift = token.equals("gives") || token.equals("takes");
        return token.equals(word) || isGift && (word.equals("gives") || word.equals("takes"));
    }

    private static void placeOfTheEnd() {
        int[] begins = {0, 6, 12, 18};
        int[] stops = {5, 9, 15, 22};
        for (int n = 1; n < 25; n++) {
            int place = n;
            for (int word = 0; word < 4; word++) {
                place = n > begins[word] && n < stops[word] ? begins[word] : place;
            }
            fault(FIRST.substring(0, n), 1, place);
        }
        fault("gorge far 4 far 6 odds 2 \n ", 1, 27);
        fault(FIRST + "pot 3\n\n", 1, 32);
        fault(FIRST + "wind from 3 to", 1, 39);
        fault(FIRST + "clause says 5 gives 8 takes 9", 1, 54);
        String full = FIRST + "pot 3" + " ".repeat(770);
        fault(full, 1, 800);
    }

    private static void firstByItsPlace() {
        fault("gorge far 21 far x", 2, 10);
        fault("gorge fax 21 far 6 odds 2;", 1, 6);
        fault(FIRST + "pot 21;#", 2, 29);
        fault(FIRST + "pot #;pot 21;", 1, 29);
        fault(FIRST + WIND.repeat(4) + "pot 21;" + WIND, 2, 25 + 72 + 4);
        fault(FIRST + WIND.repeat(5) + "pot 21;", 3, 25 + 72);
        fault(FIRST + MAN.repeat(8) + "man on 2 grip 99;#", 3, 25 + 184);
    }

    private static void ofOnePlaceTheLeast() {
        fault("gorge far 4 99 6 odds 2;", 1, 12);
        fault("gorge 21 21 6 odds 2;", 1, 6);
        fault(FIRST + "pot 3 21;", 1, 31);
        fault(FIRST + MAN.repeat(8) + "pot 3 man", 1, 25 + 184 + 6);
        fault(FIRST + WIND.repeat(4) + "pot wind", 1, 25 + 72 + 4);
        fault(FIRST + CLAUSE.repeat(7) + "clause", 3, 25 + 210);
    }

    private static void oneTooMany() {
        CHECK.due("8 men", read(FIRST + MAN.repeat(8), 9).count(4), 8);
        CHECK.due("7 clauses", read(FIRST + CLAUSE.repeat(7), 8).count(5), 7);
        CHECK.due("4 winds", read(FIRST + WIND.repeat(4), 5).count(6), 4);
        fault(FIRST + MAN.repeat(8) + "man", 3, 25 + 184);
        fault(FIRST + CLAUSE.repeat(7) + "\nclause #", 3, 25 + 210 + 1);
        fault(FIRST + WIND.repeat(4) + " wind from 12 to 3;", 3, 25 + 72 + 1);
        CHECK.due("pots without end", read(FIRST + "pot 1;".repeat(129), 130).count(8), 130);
    }

    private static void highestByteFirst() {
        for (int place = 0; place < 20; place++) {
            int[] five = {0x20202020, 0x0a0a0a0a, 0x20202020, 0x0a0a0a0a, 0x20202020};
            int shift = 24 - 8 * (place % 4);
            five[place / 4] = five[place / 4] & ~(255 << shift) | 0xc3 << shift;
            WristTreaty x = new WristTreaty();
            CHECK.due("feed", x.feed(five[0], five[1], five[2], five[3], five[4]), 20);
            CHECK.due("gorge()", x.gorge(), -4);
            CHECK.due("byte " + place, x.fault(1), place);
        }
    }

    private static void fullTape() {
        WristTreaty x = new WristTreaty();
        for (int i = 1; i <= 40; i++) {
            CHECK.due("feed " + i, x.feed(0x20202020, 0x20202020, 0x20202020, 0x20202020, 0x20202020), 20 * i);
        }
        CHECK.due("820", x.feed(0x23232323, 0, 0, 0, 0), -1);
        CHECK.due("none came", x.count(9), 800);
        CHECK.due("end(799)", x.end(799), 799);
        CHECK.due("819", x.feed(0x23232323, 0, 0, 0, 0), -1);
        CHECK.due("end(781)", x.end(781), 781);
        CHECK.due("801", x.feed(0x23232323, 0, 0, 0, 0), -1);
        CHECK.due("none came", x.count(9), 781);
        CHECK.due("end(780)", x.end(780), 780);
        CHECK.due("800", x.feed(0x20202020, 0x20202020, 0x20202020, 0x20202020, 0x20202023), 800);
        CHECK.due("gorge()", x.gorge(), -4);
        CHECK.due("the 800th byte", x.fault(1), 799);
        CHECK.due("end(799)", x.end(799), 799);
        CHECK.due("blanks alone", x.gorge(), 0);
        CHECK.due("room again", x.feed(0, 0, 0, 0, 0), 20);
    }

    private static void cutTape() {
        WristTreaty x = new WristTreaty();
        CHECK.due("an empty tape's end(0)", x.end(0), 0);
        CHECK.due("an empty tape's end(1)", x.end(1), -1);
        CHECK.due("an empty tape's end(-1)", x.end(-1), -1);
        x.feed(0x20202020, 0x20202020, 0x20202020, 0x20202020, 0x20202023);
        for (int n : new int[] {21, -1, 800, 801, Integer.MAX_VALUE, Integer.MIN_VALUE}) {
            CHECK.due("end(" + n + ")", x.end(n), -1);
            CHECK.due("nothing happened", x.count(9), 20);
        }
        CHECK.due("all of it", x.end(20), 20);
        CHECK.due("its first 19", x.end(19), 19);
        CHECK.due("20 are no more", x.end(20), -1);
        CHECK.due("behind the 19", x.feed(0x20202020, 0x20202020, 0x20202020, 0x20202020, 0x20202024), 39);
        CHECK.due("gorge()", x.gorge(), -4);
        CHECK.due("what was cut is gone", x.fault(1), 38);
        CHECK.due("end(0)", x.end(0), 0);
        CHECK.due("empty", x.gorge(), 0);
    }

    private static void gorgeOfNoLines() {
        for (String blanks : new String[] {"", " ", "\n", " \n ", " ".repeat(800)}) {
            WristTreaty x = read(blanks, 0);
            CHECK.due("there is none", x.signs(), -2);
            x = read(FIRST + MAN + "pot 3;", 3);
            x.push(0, 1);
            CHECK.due("0 lines", Check.read(x, blanks), 0);
            CHECK.due("there is none then", x.signs(), -2);
            for (int what = 0; what <= 9; what++) {
                CHECK.due("count(" + what + ")", x.count(what), 0);
            }
        }
    }

    private static void gorgeInPlaceOfAnother() {
        WristTreaty x = read(FIRST + MAN + "man on 1 grip 9 wits 0;" + CLAUSE + WIND + "pot 7;", 6);
        x.push(1, 5);
        CHECK.due("swing", x.swing(0, 1), -5);
        x.push(1, 1);
        CHECK.due("swing", x.swing(0, 1), 0);
        x.sign(0);
        CHECK.due("acts", x.count(7), 4);
        CHECK.due("in place of it", Check.read(x, "gorge far 1 far 1 odds 0;" + CLAUSE), 2);
        int[] counts = {1, 1, 0, 0, 0, 1, 0, 0, 2, 0};
        for (int what = 0; what < counts.length; what++) {
            CHECK.due("count(" + what + ")", x.count(what), counts[what]);
        }
        int[] now = {-1, -1, 0, 0, 0, 0};
        for (int what = 0; what < now.length; what++) {
            CHECK.due("nothing done, now(" + what + ")", x.now(what), now[what]);
        }
        CHECK.due("start(0)", x.start(0), 0);
        CHECK.due("start(1)", x.start(1), 0);
        CHECK.due("no wind of the other", x.kept(), 0);
        CHECK.due("no man of the other", x.man(0, 0), -2);
    }

    private static void faultOfTheLatest() {
        WristTreaty x = new WristTreaty();
        int[] none = {0, -1, -1, -1, -1, -1};
        int[] whats = {0, 1, 2, -1, Integer.MAX_VALUE, Integer.MIN_VALUE};
        faults(x, "ahead of any", whats, none);
        x.gorge();
        faults(x, "of no lines", whats, none);
        Check.read(x, FIRST + "pot 21;");
        faults(x, "of a fault", whats, new int[] {2, 29, -1, -1, -1, -1});
        x.end(0);
        Check.feed(x, FIRST);
        faults(x, "of the latest still", whats, new int[] {2, 29, -1, -1, -1, -1});
        x.gorge();
        faults(x, "of one without", whats, none);
        Check.read(x, "#");
        faults(x, "at the first byte", whats, new int[] {1, 0, -1, -1, -1, -1});
        Check.read(x, FIRST + WIND.repeat(5));
        faults(x, "of too many", whats, new int[] {3, 97, -1, -1, -1, -1});
    }

    private static void faults(WristTreaty x, String when, int[] whats, int[] due) {
        for (int i = 0; i < whats.length; i++) {
            CHECK.due(when + ", fault(" + whats[i] + ")", x.fault(whats[i]), due[i]);
        }
    }

    private static void menAndClausesAskedFor() {
        WristTreaty x = read(FIRST + MAN.repeat(8) + CLAUSE.repeat(7), 16);
        int[] beyond = {-1, 8, Integer.MAX_VALUE, Integer.MIN_VALUE};
        for (int no : beyond) {
            CHECK.due("man(" + no + ", 0)", x.man(no, 0), -2);
            CHECK.due("clause(" + no + ", 0)", x.clause(no, 0), -1000);
            CHECK.due("man(0, " + no + ")", x.man(0, no), -2);
            CHECK.due("clause(0, " + no + ")", x.clause(0, no), -1000);
        }
        CHECK.due("man(0, 3)", x.man(0, 3), -2);
        CHECK.due("clause(0, 3)", x.clause(0, 3), -1000);
        CHECK.due("man(7, 2)", x.man(7, 2), 3);
        CHECK.due("clause(6, 2)", x.clause(6, 2), -9);
        CHECK.due("clause(7, 0)", x.clause(7, 0), -1000);
        x = read(FIRST, 1);
        CHECK.due("no men", x.man(0, 0), -2);
        CHECK.due("no clauses", x.clause(0, 0), -1000);
    }
}
