import java.util.ArrayList;
import java.util.Arrays;
import java.util.LinkedHashMap;
import java.util.List;
import java.util.Map;
import java.util.function.ToLongFunction;

/** A refused call, and one that only asks, leaves all as it was: portraits of an object ahead of it and behind it are one. */
public final class RefusedTest {
    private static final Check CHECK = new Check("RefusedTest");
    private static final String WHOLE = "gorge far 4 far 6 odds 2; wind from 0 to 5; man on 0 grip 10 wits 2;"
            + "man on 0 grip 6 wits 5; man on 1 grip 8 wits 1; man on 1 grip 12 wits 4; clause says 4 gives 5 takes 2;"
            + "clause says 5 takes 3 gives 8; clause says 6 gives 10 takes 9; pot 4;";

    public static void main(String[] args) {
        refusedWithoutGorge();
        refusedAtFirst();
        refusedWhileTheyHold();
        refusedBehindSixtyActs();
        faultLeavesAll();
        askingLeavesAll();
        CHECK.finish();
    }

    private static WristTreaty withRows(String text) {
        WristTreaty x = Check.of(text);
        Check.row(x, 0, 0, 1, 2, 2, 1);
        Check.row(x, 1, 0, 2, 5);
        x.row(2, 0, 3);
        Check.feed(x, "gorge far");
        return x;
    }

    /** What can be asked without a change, of the state's every part. */
    private static long[] portrait(WristTreaty x) {
        List<Long> told = new ArrayList<>();
        for (int what = 0; what <= 10; what++) {
            told.add((long) x.count(what));
            told.add((long) x.now(what));
        }
        for (int man = 0; man < 4; man++) {
            told.add((long) x.man(man, 0));
            told.add((long) x.man(man, 1));
            told.add((long) x.man(man, 2));
            told.add((long) x.clause(man, 0));
            told.add((long) x.clause(man, 1));
            told.add((long) x.clause(man, 2));
        }
        for (int slot = 0; slot < 4; slot++) {
            for (int hold = 1; hold < 30; hold++) {
                told.add((long) x.cut(slot, hold));
                told.add((long) x.waits(slot, hold));
            }
            told.add((long) x.fits(slot));
            told.add((long) x.tired(slot));
        }
        told.add((long) x.start(0));
        told.add((long) x.start(1));
        told.add((long) x.next(0));
        told.add((long) x.kept());
        return told.stream().mapToLong(Long::longValue).toArray();
    }

    private static Map<String, ToLongFunction<WristTreaty>> calls() {
        return new LinkedHashMap<>();
    }

    private static void allRefused(WristTreaty x, Map<String, ToLongFunction<WristTreaty>> calls, long due) {
        long[] before = portrait(x);
        calls.forEach((call, answer) -> {
            CHECK.due(call, answer.applyAsLong(x), due);
            CHECK.due(call + " leaves all as it was", Arrays.equals(portrait(x), before) ? 1 : 0, 1);
        });
    }

    /** Acts are taken back one by one, each to what was ahead of it. */
    private static void takenBack(WristTreaty x, List<long[]> portraits) {
        for (int acts = portraits.size() - 1; acts >= 0; acts--) {
            CHECK.due("undo()", x.undo(), acts);
            CHECK.due("as it was ahead of act " + acts, Arrays.equals(portrait(x), portraits.get(acts)) ? 1 : 0, 1);
        }
    }

    private static Map<String, ToLongFunction<WristTreaty>> rowsRefused() {
        Map<String, ToLongFunction<WristTreaty>> calls = calls();
        calls.put("row(4, 0, 1)", x -> x.row(4, 0, 1));
        calls.put("row(0, 4, 1)", x -> x.row(0, 4, 1));
        calls.put("row(0, 0, 61)", x -> x.row(0, 0, 61));
        calls.put("write(4, 0, 1)", x -> x.write(4, 0, 1));
        calls.put("paste(4, 0, 0, 0, 1)", x -> x.paste(4, 0, 0, 0, 1));
        calls.put("paste(0, 0, -1, 0, 1)", x -> x.paste(0, 0, -1, 0, 1));
        calls.put("image(3)", x -> x.image(3));
        calls.put("back(3)", x -> x.back(3));
        return calls;
    }

    private static void refusedByRows(WristTreaty x) {
        allRefused(x, rowsRefused(), -2);
        Map<String, ToLongFunction<WristTreaty>> calls = calls();
        calls.put("row(0, 0, -1)", y -> y.row(0, 0, -1));
        allRefused(x, calls, -3);
        calls.clear();
        calls.put("write(3, 0, 1)", y -> y.write(3, 0, 1));
        calls.put("paste(3, 0, 0, 0, 1)", y -> y.paste(3, 0, 0, 0, 1));
        calls.put("paste(0, 0, 3, 0, 1)", y -> y.paste(0, 0, 3, 0, 1));
        calls.put("back(0)", y -> y.back(0));
        allRefused(x, calls, -6);
        calls.clear();
        calls.put("write(0, 5, 1)", y -> y.write(0, 5, 1));
        calls.put("write(0, -1, 1)", y -> y.write(0, -1, 1));
        calls.put("paste(0, 0, 1, 2, 2)", y -> y.paste(0, 0, 1, 2, 2));
        calls.put("paste(0, 4, 1, 0, 2)", y -> y.paste(0, 4, 1, 0, 2));
        calls.put("paste(0, 1, 0, 0, 5)", y -> y.paste(0, 1, 0, 0, 5));
        calls.put("paste(0, 0, 1, -1, 2)", y -> y.paste(0, 0, 1, -1, 2));
        calls.put("paste(0, 0, 1, 0, -1)", y -> y.paste(0, 0, 1, 0, -1));
        allRefused(x, calls, -7);
        calls.clear();
        calls.put("paste(0, 0, 2, 0, 3)", y -> y.paste(0, 0, 2, 0, 3));
        allRefused(x, calls, -8);
        calls.clear();
        calls.put("end(10)", y -> y.end(10));
        calls.put("end(-1)", y -> y.end(-1));
        allRefused(x, calls, -1);
    }

    private static Map<String, ToLongFunction<WristTreaty>> actsOfNone() {
        Map<String, ToLongFunction<WristTreaty>> calls = calls();
        calls.put("push(2, 0)", x -> x.push(2, 0));
        calls.put("push(0, 20)", x -> x.push(0, 20));
        calls.put("push(0, -1)", x -> x.push(0, -1));
        calls.put("swing(0, 1)", x -> x.swing(0, 1));
        calls.put("swing(2, 2)", x -> x.swing(2, 2));
        calls.put("swing(0, 4)", x -> x.swing(0, 4));
        calls.put("sign(3)", x -> x.sign(3));
        calls.put("sign(-1)", x -> x.sign(-1));
        calls.put("grip(4, 1)", x -> x.grip(4, 1));
        calls.put("grip(0, 0)", x -> x.grip(0, 0));
        calls.put("grip(0, 31)", x -> x.grip(0, 31));
        return calls;
    }

    private static void refusedWithoutGorge() {
        WristTreaty x = withRows("");
        refusedByRows(x);
        Map<String, ToLongFunction<WristTreaty>> calls = actsOfNone();
        calls.put("push(0, 1)", y -> y.push(0, 1));
        calls.put("swing(0, 2)", y -> y.swing(0, 2));
        calls.put("sign(0)", y -> y.sign(0));
        calls.put("drop()", WristTreaty::drop);
        calls.put("undo()", WristTreaty::undo);
        calls.put("anew()", WristTreaty::anew);
        calls.put("grip(0, 1)", y -> y.grip(0, 1));
        allRefused(x, calls, -2);
    }

    private static void refusedAtFirst() {
        WristTreaty x = withRows(WHOLE);
        refusedByRows(x);
        allRefused(x, actsOfNone(), -2);
        Map<String, ToLongFunction<WristTreaty>> calls = calls();
        calls.put("sign(0)", y -> y.sign(0));
        calls.put("drop()", WristTreaty::drop);
        calls.put("undo()", WristTreaty::undo);
        allRefused(x, calls, -5);
    }

    private static void refusedWhileTheyHold() {
        WristTreaty x = withRows(WHOLE);
        List<long[]> portraits = new ArrayList<>();
        List<ToLongFunction<WristTreaty>> acts = List.of(y -> y.push(0, 6), y -> y.push(1, 5), y -> y.push(1, 1),
                y -> y.swing(0, 2), WristTreaty::drop, y -> y.swing(3, 1), y -> y.sign(0));
        for (ToLongFunction<WristTreaty> act : acts) {
            portraits.add(portrait(x));
            CHECK.due("an act", act.applyAsLong(x) >= 0 ? 1 : 0, 1);
        }
        refusedByRows(x);
        allRefused(x, actsOfNone(), -2);
        Map<String, ToLongFunction<WristTreaty>> calls = calls();
        calls.put("push(0, 1), they hold", y -> y.push(0, 1));
        calls.put("push(1, 0), they hold", y -> y.push(1, 0));
        calls.put("swing(0, 2), they hold", y -> y.swing(0, 2));
        calls.put("sign(0), signed already", y -> y.sign(0));
        calls.put("grip(0, 1), there are acts", y -> y.grip(0, 1));
        allRefused(x, calls, -5);
        CHECK.due("sign(2)", x.sign(2), 0);
        calls.clear();
        calls.put("sign(1), more than is left", y -> y.sign(1));
        allRefused(x, calls, -5);
        x.undo();
        takenBack(x, portraits);
        allRefused(x, Map.of("undo(), there is none", WristTreaty::undo), -5);
    }

    private static void refusedBehindSixtyActs() {
        WristTreaty x = withRows(WHOLE);
        List<long[]> portraits = new ArrayList<>();
        for (int i = 0; i < 60; i++) {
            portraits.add(portrait(x));
            x.push(i % 2, i % 20);
        }
        Map<String, ToLongFunction<WristTreaty>> calls = calls();
        calls.put("push(0, 1), 60 acts", y -> y.push(0, 1));
        calls.put("swing(0, 2), 60 acts", y -> y.swing(0, 2));
        calls.put("sign(0), 60 acts", y -> y.sign(0));
        calls.put("drop(), 60 acts", WristTreaty::drop);
        calls.put("grip(0, 1), 60 acts", y -> y.grip(0, 1));
        allRefused(x, calls, -5);
        allRefused(x, actsOfNone(), -2);
        takenBack(x, portraits);
    }

    private static void faultLeavesAll() {
        String[] faulty = {"#", "gorge", "man on 0 grip 1 wits 1;", "gorge far 0 far 1 odds 0;", "gorge far 4 far 6 odds 11;",
            "gorge far 9 far 9 odds 9; pot 9; man on 1 grip 9 wits 9; clause says 9 gives 9 gives 9; wind from 9 to 9; pot 21;",
            "gorge far 9 far 9 odds 9;" + "man on 1 grip 9 wits 9;".repeat(9),
            "gorge far 9 far 9 odds 9;" + "clause says 9 gives 9 gives 9;".repeat(8),
            "gorge far 9 far 9 odds 9;" + "wind from 9 to 9;".repeat(5)};
        for (String whole : new String[] {"", WHOLE}) {
            WristTreaty x = withRows(whole);
            x.push(1, 6);
            x.swing(0, 2);
            x.sign(0);
            for (String text : faulty) {
                x.end(0);
                Check.feed(x, text);
                allRefused(x, Map.of("gorge() of " + text, WristTreaty::gorge), -4);
                CHECK.due("the tape stays", x.end(text.length()), text.length());
                allRefused(x, Map.of("gorge() again", WristTreaty::gorge), -4);
            }
        }
    }

    private static void askingLeavesAll() {
        WristTreaty x = withRows(WHOLE);
        x.push(1, 2);
        x.swing(0, 2);
        long[] before = portrait(x);
        List<ToLongFunction<WristTreaty>> asked = List.of(WristTreaty::longest, WristTreaty::able, WristTreaty::soonest,
                y -> y.often(2000), WristTreaty::pair, WristTreaty::match, WristTreaty::loners, WristTreaty::fair,
                y -> y.matched(0), y -> y.resin(0, 2, 4), y -> y.spare(0, 2), y -> y.least(9), y -> y.order(9, 2),
                y -> y.needs(2), y -> y.ends(9), y -> y.full(9), y -> y.once(9), WristTreaty::signs, WristTreaty::deal,
                WristTreaty::even, y -> y.must(1), WristTreaty::bundles, WristTreaty::firm, WristTreaty::stands,
                y -> y.ask(1), y -> y.chance(0, 2, 3, 0), y -> y.sure(0, 2, 50), y -> y.mean(0, 2, 1),
                y -> y.drawn(7, 0, 2), y -> y.luck(7, 20, 0, 2, 0), y -> y.pushes(12), y -> y.meet(9), y -> y.image(1));
        for (int i = 0; i < asked.size(); i++) {
            long answer = asked.get(i).applyAsLong(x);
            CHECK.due("call " + i + " leaves all as it was", Arrays.equals(portrait(x), before) ? 1 : 0, 1);
            CHECK.due("call " + i + " again", asked.get(i).applyAsLong(x), answer);
        }
    }
}
