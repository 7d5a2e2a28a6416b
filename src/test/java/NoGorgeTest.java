import java.util.LinkedHashMap;
import java.util.Map;
import java.util.function.ToLongFunction;

/** What every call answers without a gorge, however there came to be none, and whatever the slots have. */
public final class NoGorgeTest {
    private static final Check CHECK = new Check("NoGorgeTest");
    private static final String WHOLE = "gorge far 4 far 6 odds 2; wind from 0 to 5;"
            + "man on 0 grip 10 wits 2; man on 1 grip 6 wits 5; clause says 4 gives 5 takes 2; pot 3;";
    private static final Map<String, ToLongFunction<WristTreaty>> NO_SUCH = new LinkedHashMap<>();
    private static final Map<String, ToLongFunction<WristTreaty>> NO_WORTH = new LinkedHashMap<>();

    public static void main(String[] args) {
        gatherBeats();
        gatherPairs();
        gatherSpeech();
        gatherBargain();
        gatherTired();
        gatherChances();
        gatherActs();
        gatherWorths();
        CHECK.due("calls that tell there is no gorge", NO_SUCH.size() + NO_WORTH.size(), 79);
        told("a new object", new WristTreaty());
        told("a fault of a new object", afterFault());
        told("no lines", afterNoLines());
        told("blanks", afterBlanks());
        told("an image of none", afterImage());
        CHECK.finish();
    }

    private static void gatherBeats() {
        NO_SUCH.put("man(0, 0)", x -> x.man(0, 0));
        NO_SUCH.put("man(0, 1)", x -> x.man(0, 1));
        NO_SUCH.put("man(0, 2)", x -> x.man(0, 2));
        NO_SUCH.put("start(0)", x -> x.start(0));
        NO_SUCH.put("start(1)", x -> x.start(1));
        NO_SUCH.put("out(0, 0)", x -> x.out(0, 0));
        NO_SUCH.put("out(1, 2000000000)", x -> x.out(1, 2000000000));
        NO_SUCH.put("next(0)", x -> x.next(0));
        NO_SUCH.put("meetings(0)", x -> x.meetings(0));
        NO_SUCH.put("longest()", WristTreaty::longest);
        NO_SUCH.put("able()", WristTreaty::able);
        NO_SUCH.put("soonest()", WristTreaty::soonest);
        NO_SUCH.put("often(0)", x -> x.often(0));
        NO_SUCH.put("kept()", WristTreaty::kept);
        NO_SUCH.put("meet(0)", x -> x.meet(0));
        NO_SUCH.put("pushes(0)", x -> x.pushes(0));
    }

    private static void gatherPairs() {
        NO_SUCH.put("hold(0, 1)", x -> x.hold(0, 1));
        NO_SUCH.put("hold(0, 0)", x -> x.hold(0, 0));
        NO_SUCH.put("pair()", WristTreaty::pair);
        NO_SUCH.put("partner(0)", x -> x.partner(0));
        NO_SUCH.put("strong(0)", x -> x.strong(0));
        NO_SUCH.put("weak(1)", x -> x.weak(1));
        NO_SUCH.put("match()", WristTreaty::match);
        NO_SUCH.put("matched(0)", x -> x.matched(0));
        NO_SUCH.put("loners()", WristTreaty::loners);
        NO_SUCH.put("fair()", WristTreaty::fair);
        NO_SUCH.put("resin(0, 1, 0)", x -> x.resin(0, 1, 0));
        NO_SUCH.put("spare(0, 1)", x -> x.spare(0, 1));
    }

    private static void gatherSpeech() {
        NO_SUCH.put("cut(0, 9)", x -> x.cut(0, 9));
        NO_SUCH.put("cut(1, 9), an empty row or nothing", x -> x.cut(1, 9));
        NO_SUCH.put("waits(0, 9)", x -> x.waits(0, 9));
        NO_SUCH.put("waits(1, 9), an empty row or nothing", x -> x.waits(1, 9));
        NO_SUCH.put("least(1)", x -> x.least(1));
        NO_SUCH.put("order(1, 0)", x -> x.order(1, 0));
        NO_SUCH.put("needs(1)", x -> x.needs(1));
        NO_SUCH.put("ends(1)", x -> x.ends(1));
        NO_SUCH.put("full(0)", x -> x.full(0));
        NO_SUCH.put("fulls(0)", x -> x.fulls(0));
        NO_SUCH.put("once(0)", x -> x.once(0));
        NO_SUCH.put("onces(0)", x -> x.onces(0));
    }

    private static void gatherBargain() {
        NO_SUCH.put("signs()", WristTreaty::signs);
        NO_SUCH.put("deal()", WristTreaty::deal);
        NO_SUCH.put("even()", WristTreaty::even);
        NO_SUCH.put("veto(0)", x -> x.veto(0));
        NO_SUCH.put("must(0)", x -> x.must(0));
        NO_SUCH.put("musts(1)", x -> x.musts(1));
        NO_SUCH.put("bundles()", WristTreaty::bundles);
        NO_SUCH.put("bundle()", WristTreaty::bundle);
        NO_SUCH.put("firm()", WristTreaty::firm);
        NO_SUCH.put("rests(0, 0)", x -> x.rests(0, 0));
        NO_SUCH.put("stands()", WristTreaty::stands);
    }

    private static void gatherTired() {
        for (int slot = 0; slot < 2; slot++) {
            int of = slot;
            NO_SUCH.put("fits(" + slot + ")", x -> x.fits(of));
            NO_SUCH.put("tired(" + slot + ")", x -> x.tired(of));
            NO_SUCH.put("by(" + slot + ", 0)", x -> x.by(of, 0));
            NO_SUCH.put("ask(" + slot + ")", x -> x.ask(of));
        }
    }

    private static void gatherChances() {
        NO_SUCH.put("chance(0, 1, 0, 0)", x -> x.chance(0, 1, 0, 0));
        NO_SUCH.put("sure(0, 1, 0)", x -> x.sure(0, 1, 0));
        NO_SUCH.put("mean(0, 1, 1)", x -> x.mean(0, 1, 1));
        NO_SUCH.put("drawn(0, 0, 1)", x -> x.drawn(0, 0, 1));
        NO_SUCH.put("luck(0, 1, 0, 1, 0)", x -> x.luck(0, 1, 0, 1, 0));
    }

    private static void gatherActs() {
        NO_SUCH.put("push(0, 0)", x -> x.push(0, 0));
        NO_SUCH.put("swing(0, 1)", x -> x.swing(0, 1));
        NO_SUCH.put("sign(0)", x -> x.sign(0));
        NO_SUCH.put("drop()", WristTreaty::drop);
        NO_SUCH.put("undo()", WristTreaty::undo);
        NO_SUCH.put("anew()", WristTreaty::anew);
        NO_SUCH.put("grip(0, 1)", x -> x.grip(0, 1));
    }

    private static void gatherWorths() {
        NO_WORTH.put("clause(0, 0)", x -> x.clause(0, 0));
        NO_WORTH.put("worth(0, 0)", x -> x.worth(0, 0));
        for (int what = 0; what < 6; what++) {
            int of = what;
            NO_WORTH.put("now(" + what + ")", x -> x.now(of));
        }
    }

    private static WristTreaty done() {
        WristTreaty x = new WristTreaty();
        x.image(1);
        Check.read(x, WHOLE);
        x.push(0, 1);
        x.push(0, 3);
        x.swing(0, 1);
        x.sign(0);
        CHECK.due("acts", x.count(7), 4);
        return x;
    }

    private static WristTreaty afterFault() {
        WristTreaty x = new WristTreaty();
        CHECK.due("a fault", Check.read(x, WHOLE + "pot 21;"), -4);
        x.end(0);
        return x;
    }

    private static WristTreaty afterNoLines() {
        WristTreaty x = done();
        CHECK.due("no lines", x.gorge(), 0);
        return x;
    }

    private static WristTreaty afterBlanks() {
        WristTreaty x = done();
        CHECK.due("blanks", Check.read(x, " \n"), 0);
        return x;
    }

    private static WristTreaty afterImage() {
        WristTreaty x = done();
        CHECK.due("back(1)", x.back(1), 0);
        return x;
    }

    private static void told(String how, WristTreaty x) {
        answers(how + ", slots bare", x);
        Check.row(x, 0, 0, 1, 6);
        Check.row(x, 1);
        answers(how + ", slots with rows", x);
        CHECK.due(how + ", image(0)", x.image(0), 0);
        CHECK.due(how + ", back(0)", x.back(0), 0);
        CHECK.due(how + ", back(2)", x.back(2), -6);
        answers(how + ", gone back", x);
        CHECK.due(how + ", another gorge", Check.read(x, WHOLE), 6);
        CHECK.due(how + ", nothing done in it", x.count(7), 0);
        CHECK.due(how + ", from beat 0 on", x.swing(0, 1), 12);
    }

    private static void answers(String how, WristTreaty x) {
        NO_SUCH.forEach((call, answer) -> CHECK.due(how + ", " + call, answer.applyAsLong(x), -2));
        NO_WORTH.forEach((call, answer) -> CHECK.due(how + ", " + call, answer.applyAsLong(x), -1000));
        for (int what = 0; what <= 9; what++) {
            CHECK.due(how + ", count(" + what + ")", x.count(what), 0);
        }
    }
}
