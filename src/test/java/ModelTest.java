import java.math.BigInteger;
import java.util.ArrayList;
import java.util.List;
import java.util.Map;
import java.util.Random;
import java.util.TreeMap;

/** Drawn gorges and calls, against answers found beat by beat, order by order and set by set. */
public final class ModelTest {
    private static final Check CHECK = new Check("ModelTest");
    private static final int GORGES = 400;

    private final Random random;
    private final WristTreaty x = new WristTreaty();
    private final int[] fars = new int[2];
    private final int[] starts = new int[2];
    private int odds;
    private int pot;
    private final List<int[]> men = new ArrayList<>();
    private final List<int[]> clauses = new ArrayList<>();
    private final List<int[]> winds = new ArrayList<>();

    private ModelTest(long seed) {
        random = new Random(seed);
    }

    public static void main(String[] args) {
        for (long seed = 0; seed < GORGES; seed++) {
            new ModelTest(seed).run();
        }
        CHECK.finish();
    }

    private void run() {
        CHECK.due("gorge()", Check.read(x, drawGorge()), 1 + men.size() + clauses.size() + winds.size() + 1);
        beats();
        pairs();
        speech();
        bargain();
        tired();
        chances();
        for (int evening = 0; evening < 2; evening++) {
            evening();
            beats();
            x.anew();
            starts[0] = 0;
            starts[1] = 0;
        }
    }

    private int upTo(int most) {
        return random.nextInt(most + 1);
    }

    private String drawGorge() {
        StringBuilder text = new StringBuilder();
        int farthest = random.nextBoolean() ? 20 : 4;
        fars[0] = 1 + upTo(farthest - 1);
        fars[1] = 1 + upTo(farthest - 1);
        odds = upTo(10);
        text.append("gorge far " + fars[0] + " far " + fars[1] + " odds " + odds + ";");
        int most = random.nextBoolean() ? 30 : 5;
        for (int i = upTo(8); i > 0; i--) {
            int[] man = {upTo(1), 1 + upTo(most - 1), upTo(9)};
            men.add(man);
            text.append("man on " + man[0] + " grip " + man[1] + " wits " + man[2] + ";");
        }
        int dearest = random.nextBoolean() ? 99 : 3;
        for (int i = upTo(random.nextInt(4) == 0 ? 7 : 5); i > 0; i--) {
            int[] clause = {1 + upTo(most - 1), upTo(2 * dearest) - dearest, upTo(2 * dearest) - dearest};
            clauses.add(clause);
            text.append("clause says " + clause[0] + gift(clause[1]) + gift(clause[2]) + ";");
        }
        int last = random.nextBoolean() ? 999 : 60;
        for (int i = upTo(4); i > 0; i--) {
            int from = upTo(last);
            int[] wind = {from, from + upTo(last - from)};
            winds.add(wind);
            text.append("wind from " + wind[0] + " to " + wind[1] + ";");
        }
        pot = upTo(20);
        text.append("pot " + pot + ";");
        return text.toString();
    }

    private static String gift(int n) {
        return n < 0 ? " takes " + -n : " gives " + n;
    }

    // Beats

    private boolean isMeeting(int beat, int start0) {
        return areOut(beat, start0) && !isWindy(beat);
    }

    private boolean areOut(int beat, int start0) {
        return (beat + 20 * fars[0] - start0) % fars[0] == 0 && (beat + 20 * fars[1] - starts[1]) % fars[1] == 0;
    }

    private boolean isWindy(int beat) {
        for (int[] wind : winds) {
            if (wind[0] <= beat && beat <= wind[1]) {
                return true;
            }
        }
        return false;
    }

    private List<Integer> meetings(int from, int last, int start0) {
        List<Integer> found = new ArrayList<>();
        for (int beat = from; beat <= last; beat++) {
            if (isMeeting(beat, start0)) {
                found.add(beat);
            }
        }
        return found;
    }

    private void beats() {
        List<Integer> all = meetings(0, 10000, starts[0]);
        for (int i = 0; i < 6; i++) {
            int beat = i < 3 ? upTo(40) : upTo(5000);
            CHECK.due("next", x.next(beat), all.stream().filter(b -> b >= beat).findFirst().orElse(-1));
            int n = i < 3 ? upTo(40) : upTo(10000);
            CHECK.due("meetings", x.meetings(n), all.stream().filter(b -> b <= n).count());
            int nth = i < 3 ? upTo(5) : upTo(999);
            CHECK.due("meet", x.meet(nth), nth < all.size() ? all.get(nth) : -1);
            pushes(n);
            often(i < 3 ? upTo(40) : upTo(2000));
        }
        int longest = -1;
        for (int i = 1; i < all.size() && all.get(i) <= 2000; i++) {
            longest = Math.max(longest, all.get(i) - all.get(i - 1));
        }
        CHECK.due("longest", x.longest(), longest);
        int kept = 0;
        for (int beat = 0; beat <= 10000; beat++) {
            kept += areOut(beat, starts[0]) && isWindy(beat) ? 1 : 0;
        }
        CHECK.due("kept", x.kept(), kept);
        ableAndSoonest();
    }

    private void ableAndSoonest() {
        int able = 0;
        int soonest = -1;
        int soonestBeat = 10001;
        for (int start = 0; start < fars[0]; start++) {
            boolean meet = false;
            for (int beat = 0; beat < 1000; beat++) {
                meet |= areOut(beat, start);
            }
            able += meet ? 1 : 0;
            List<Integer> found = meetings(0, 2000, start);
            if (!found.isEmpty() && found.get(0) < soonestBeat) {
                soonest = start;
                soonestBeat = found.get(0);
            }
        }
        CHECK.due("able", x.able(), able);
        CHECK.due("soonest", x.soonest(), soonest);
    }

    private void pushes(int beat) {
        int pushes = -1;
        for (int later = fars[0] - 1; later >= 0; later--) {
            if (isMeeting(beat, (starts[0] + later) % fars[0])) {
                pushes = later;
            }
        }
        CHECK.due("pushes", x.pushes(beat), pushes);
    }

    private void often(int n) {
        int often = -1;
        int most = 0;
        for (int start = 0; start < fars[0]; start++) {
            int met = meetings(0, n, start).size();
            if (met > most) {
                most = met;
                often = start;
            }
        }
        CHECK.due("often", x.often(n), often);
    }

    // Pairs

    private int hold(int man, int other) {
        int[] a = men.get(man);
        int[] b = men.get(other);
        return Math.min(a[1], b[1]) + Math.min(a[2], b[2]);
    }

    private List<int[]> pairsOfSides() {
        List<int[]> found = new ArrayList<>();
        for (int man = 0; man < men.size(); man++) {
            for (int other = 0; other < men.size(); other++) {
                if (men.get(man)[0] == 0 && men.get(other)[0] == 1) {
                    found.add(new int[] {man, other});
                }
            }
        }
        return found;
    }

    private void pairs() {
        int pair = -1;
        int greatest = 0;
        for (int[] two : pairsOfSides()) {
            int held = hold(two[0], two[1]);
            CHECK.due("hold", x.hold(two[0], two[1]), held);
            if (held > greatest) {
                greatest = held;
                pair = 10 * two[0] + two[1];
            }
            resin(two[1], two[0]);
        }
        CHECK.due("pair", x.pair(), pair);
        ways();
    }

    private int resined(int man, int other, int n) {
        int greatest = 0;
        for (int part = 0; part <= n; part++) {
            int grip = Math.min(men.get(man)[1] + 2 * part, men.get(other)[1] + 2 * (n - part));
            greatest = Math.max(greatest, grip + Math.min(men.get(man)[2], men.get(other)[2]));
        }
        return greatest;
    }

    private void resin(int man, int other) {
        int spare = pot;
        for (int n = pot; n >= 0; n--) {
            CHECK.due("resin", x.resin(man, other, n), resined(man, other, n));
            spare = resined(man, other, n) == resined(man, other, pot) ? n : spare;
        }
        CHECK.due("spare", x.spare(man, other), spare);
    }

    /** Every set of pairs in which nobody is twice, as bits of the pairs. */
    private void ways() {
        List<int[]> pairs = pairsOfSides();
        int match = 0;
        int fair = 0;
        int pairsMost = 0;
        int[] first = null;
        for (int way = 0; way < 1 << pairs.size(); way++) {
            int[] goes = partners(pairs, way);
            if (goes == null) {
                continue;
            }
            int sum = 0;
            int least = 99;
            for (int i = 0; i < pairs.size(); i++) {
                if ((way >> i & 1) == 1) {
                    sum += hold(pairs.get(i)[0], pairs.get(i)[1]);
                    least = Math.min(least, hold(pairs.get(i)[0], pairs.get(i)[1]));
                }
            }
            if (first == null || sum > match || sum == match && isAhead(goes, first)) {
                match = sum;
                first = goes;
            }
            if (Integer.bitCount(way) > pairsMost) {
                pairsMost = Integer.bitCount(way);
                fair = 0;
            }
            if (Integer.bitCount(way) == pairsMost && pairsMost > 0) {
                fair = Math.max(fair, least);
            }
        }
        CHECK.due("match", x.match(), match);
        CHECK.due("fair", x.fair(), fair);
        int loners = 0;
        for (int man = 0; man < men.size(); man++) {
            CHECK.due("matched", x.matched(man), first[man]);
            loners |= first[man] < 0 ? 1 << man : 0;
        }
        CHECK.due("loners", x.loners(), loners);
    }

    private int[] partners(List<int[]> pairs, int way) {
        int[] goes = new int[men.size()];
        java.util.Arrays.fill(goes, -1);
        for (int i = 0; i < pairs.size(); i++) {
            if ((way >> i & 1) == 1) {
                int man = pairs.get(i)[0];
                int other = pairs.get(i)[1];
                if (goes[man] >= 0 || goes[other] >= 0) {
                    return null;
                }
                goes[man] = other;
                goes[other] = man;
            }
        }
        return goes;
    }

    private boolean isAhead(int[] goes, int[] other) {
        for (int man = 0; man < goes.length; man++) {
            if (men.get(man)[0] == 0 && goes[man] != other[man]) {
                return goes[man] >= 0 && (other[man] < 0 || goes[man] < other[man]);
            }
        }
        return false;
    }

    // Speech

    /** Meetings of a row, and the place of the first that waits. */
    private int[] cut(List<Integer> row, int hold) {
        int meetings = 0;
        int left = 0;
        int waits = -1;
        for (int i = 0; i < row.size(); i++) {
            int says = clauses.get(row.get(i))[0];
            if (says > hold) {
                return new int[] {-1, -1};
            }
            if (says > left) {
                waits = meetings > 0 && waits < 0 ? i : waits;
                meetings++;
                left = hold;
            }
            left -= says;
        }
        return new int[] {meetings, waits};
    }

    private List<Integer> best;
    private int bestMeetings;

    /** Orders come from the least on, so that the first of the fewest stays. */
    private void orders(List<Integer> row, int hold) {
        if (row.size() == clauses.size()) {
            int meetings = cut(row, hold)[0];
            if (best == null || meetings < bestMeetings) {
                best = new ArrayList<>(row);
                bestMeetings = meetings;
            }
            return;
        }
        for (int clause = 0; clause < clauses.size(); clause++) {
            if (!row.contains(clause)) {
                row.add(clause);
                orders(row, hold);
                row.remove(row.size() - 1);
            }
        }
    }

    private void speech() {
        List<Integer> all = meetings(0, 10000, starts[0]);
        for (int i = 0; i < 3; i++) {
            int hold = 1 + upTo(i == 0 ? 98 : 40);
            best = null;
            orders(new ArrayList<>(), hold);
            CHECK.due("least", x.least(hold), bestMeetings);
            for (int place = 0; place < clauses.size(); place++) {
                CHECK.due("order", x.order(hold, place), bestMeetings < 0 ? -1 : best.get(place));
            }
            boolean ends = bestMeetings > 0 && all.size() >= bestMeetings;
            CHECK.due("ends", x.ends(hold), ends ? all.get(bestMeetings - 1) : -1);
            rowSaid(hold);
            oneMeeting(hold);
        }
        if (clauses.size() <= 4) {
            needs();
        }
    }

    private void needs() {
        for (int n = 1; n <= 7; n++) {
            int needs = clauses.isEmpty() ? 0 : -1;
            for (int hold = 1; hold <= 250 && needs < 0; hold++) {
                best = null;
                orders(new ArrayList<>(), hold);
                needs = bestMeetings > 0 && bestMeetings <= n ? hold : -1;
            }
            CHECK.due("needs", x.needs(n), needs);
        }
    }

    private void rowSaid(int hold) {
        int width = upTo(3);
        int slot = upTo(3);
        int size = clauses.isEmpty() ? 0 : upTo(12);
        List<Integer> row = new ArrayList<>();
        x.row(slot, width, size);
        for (int i = 0; i < size; i++) {
            row.add(upTo(clauses.size() - 1));
            x.write(slot, i, row.get(i));
        }
        CHECK.due("cut", x.cut(slot, hold), cut(row, hold)[0]);
        CHECK.due("waits", x.waits(slot, hold), cut(row, hold)[1]);
    }

    private int sum(int set, int what) {
        int sum = 0;
        for (int clause = 0; clause < clauses.size(); clause++) {
            sum += (set >> clause & 1) * clauses.get(clause)[what];
        }
        return sum;
    }

    private int sets() {
        return 1 << clauses.size();
    }

    private void oneMeeting(int hold) {
        int full = 0;
        int once = 0;
        for (int set = 0; set < sets(); set++) {
            if (sum(set, 0) <= hold) {
                full = Integer.bitCount(set) > Integer.bitCount(full) ? set : full;
                once = sum(set, 1) + sum(set, 2) > sum(once, 1) + sum(once, 2) ? set : once;
            }
        }
        CHECK.due("full", x.full(hold), Integer.bitCount(full));
        CHECK.due("fulls", x.fulls(hold), full);
        CHECK.due("once", x.once(hold), sum(once, 1) + sum(once, 2));
        CHECK.due("onces", x.onces(hold), once);
    }

    // Bargain

    private boolean isSigned(int set) {
        return sum(set, 1) >= 0 && sum(set, 2) >= 0;
    }

    private void bargain() {
        int signs = 0;
        int deal = -1;
        int even = -9999;
        int firm = 0;
        for (int set = 0; set < sets(); set++) {
            CHECK.due("worth", x.worth(set, 0), sum(set, 1));
            CHECK.due("worth", x.worth(set, 1), sum(set, 2));
            if (isSigned(set)) {
                signs++;
                deal = deal < 0 || sum(set, 1) * sum(set, 2) > sum(deal, 1) * sum(deal, 2) ? set : deal;
            }
            even = Math.max(even, Math.min(sum(set, 1), sum(set, 2)));
            boolean isFirm = true;
            for (int other = 0; other < sets(); other++) {
                int more0 = sum(other, 1) - sum(set, 1);
                int more1 = sum(other, 2) - sum(set, 2);
                isFirm &= !(more0 > 0 && more1 >= 0) && !(more1 > 0 && more0 >= 0);
            }
            firm += isFirm ? 1 : 0;
        }
        CHECK.due("signs", x.signs(), signs);
        CHECK.due("deal", x.deal(), deal);
        CHECK.due("even", x.even(), even);
        CHECK.due("firm", x.firm(), firm);
        sides();
        bundles();
        offers();
    }

    private void sides() {
        for (int side = 0; side < 2; side++) {
            int veto = 0;
            for (int clause = 0; clause < clauses.size(); clause++) {
                veto |= clauses.get(clause)[1 + side] < 0 ? 1 << clause : 0;
            }
            CHECK.due("veto", x.veto(side), veto);
            int must = sets() - 1;
            for (int out = sets() - 1; out >= 0; out--) {
                if (sum(sets() - 1 - out, 1 + side) >= 0 && Integer.bitCount(out) <= Integer.bitCount(must)) {
                    must = out;
                }
            }
            CHECK.due("must", x.must(side), Integer.bitCount(must));
            CHECK.due("musts", x.musts(side), must);
        }
    }

    private void bundles() {
        int bundles = 0;
        int first = -1;
        for (int clause = clauses.size() - 1; clause >= 0; clause--) {
            for (int other = clauses.size() - 1; other > clause; other--) {
                if (isSigned(1 << clause | 1 << other) && !isSigned(1 << clause) && !isSigned(1 << other)) {
                    bundles++;
                    first = 10 * clause + other;
                }
            }
        }
        CHECK.due("bundles", x.bundles(), bundles);
        CHECK.due("bundle", x.bundle(), first);
    }

    /** What a side has by its choice and the other one's. */
    private int has(int clause, int side, int mine, int theirs, int cost) {
        if (mine == 0) {
            return 0;
        }
        return theirs == 1 ? clauses.get(clause)[1 + side] : -cost;
    }

    private boolean isAtRest(int clause, int of0, int of1, int cost) {
        return has(clause, 0, 1 - of0, of1, cost) <= has(clause, 0, of0, of1, cost)
                && has(clause, 1, 1 - of1, of0, cost) <= has(clause, 1, of1, of0, cost);
    }

    private void offers() {
        int stands = 0;
        for (int clause = 0; clause < clauses.size(); clause++) {
            boolean always = true;
            for (int cost = 0; cost <= 99; cost++) {
                int rests = 0;
                for (int choice = 0; choice < 4; choice++) {
                    rests += isAtRest(clause, choice & 1, choice >> 1, cost) ? 1 : 0;
                }
                CHECK.due("rests", x.rests(clause, cost), rests);
                always &= isAtRest(clause, 1, 1, cost);
            }
            stands |= always ? 1 << clause : 0;
        }
        CHECK.due("stands", x.stands(), stands);
    }

    // Tired

    private int wearyHold(int[] two, int man, int k) {
        int gripA = men.get(two[0])[1] - (two[0] == man ? k : 0);
        int gripB = men.get(two[1])[1] - (two[1] == man ? k : 0);
        return Math.min(gripA, gripB) + Math.min(men.get(two[0])[2], men.get(two[1])[2]);
    }

    private void tired() {
        List<int[]> pairs = pairsOfSides();
        for (int round = 0; round < 3; round++) {
            List<int[]> told = new ArrayList<>();
            int weary = men.isEmpty() ? 0 : upTo(men.size() - 1);
            int loss = men.isEmpty() ? 0 : upTo(men.get(weary)[1] - 1);
            for (int i = pairs.isEmpty() ? 0 : upTo(3); i > 0; i--) {
                int[] two = pairs.get(upTo(pairs.size() - 1));
                int noise = upTo(9) == 0 ? upTo(2) : 0;
                told.add(new int[] {two[0], two[1], wearyHold(two, weary, loss) + noise});
            }
            x.row(1, 0, 3 * told.size());
            for (int i = 0; i < 3 * told.size(); i++) {
                x.write(1, i, told.get(i / 3)[i % 3]);
            }
            tiredBy(told, pairs);
        }
    }

    private void tiredBy(List<int[]> told, List<int[]> pairs) {
        List<int[]> guesses = new ArrayList<>();
        int tired = 0;
        for (int man = 0; man < men.size(); man++) {
            int by = -1;
            for (int k = men.get(man)[1] - 1; k >= 1; k--) {
                boolean fits = true;
                for (int[] t : told) {
                    fits &= wearyHold(t, man, k) == t[2];
                }
                if (fits) {
                    guesses.add(new int[] {man, k});
                    by = k;
                    tired |= 1 << man;
                }
            }
            CHECK.due("by", x.by(1, man), by);
        }
        CHECK.due("fits", x.fits(1), guesses.size());
        CHECK.due("tired", x.tired(1), tired);
        int ask = -1;
        int fewest = guesses.size();
        for (int[] two : pairs) {
            Map<Integer, Integer> left = new TreeMap<>();
            guesses.forEach(g -> left.merge(wearyHold(two, g[0], g[1]), 1, Integer::sum));
            int worst = left.values().stream().max(Integer::compare).orElse(0);
            if (worst < fewest) {
                fewest = worst;
                ask = 10 * two[0] + two[1];
            }
        }
        CHECK.due("ask", x.ask(1), ask);
    }

    // Chances

    private static void fraction(String call, long gotAbove, long gotBelow, BigInteger above, BigInteger below) {
        BigInteger shared = above.gcd(below);
        CHECK.due(call, gotAbove, above.divide(shared).longValueExact());
        CHECK.due(call, gotBelow, below.divide(shared).longValueExact());
    }

    private void chances() {
        BigInteger ten = BigInteger.TEN;
        BigInteger stay = BigInteger.valueOf(10 - odds);
        for (int[] two : pairsOfSides()) {
            int held = hold(two[0], two[1]);
            for (int n = 0; n <= 18; n++) {
                BigInteger above = n > held ? BigInteger.ZERO : stay.pow(n);
                fraction("chance", x.chance(two[0], two[1], n, 0), x.chance(two[0], two[1], n, 1), above, ten.pow(n));
            }
            for (int p = 0; p <= 100; p++) {
                int sure = 0;
                for (int n = 0; n <= Math.min(18, held); n++) {
                    BigInteger likely = stay.pow(n).multiply(BigInteger.valueOf(100));
                    sure = likely.compareTo(ten.pow(n).multiply(BigInteger.valueOf(p))) >= 0 ? n : sure;
                }
                CHECK.due("sure", x.sure(two[0], two[1], p), sure);
            }
            mean(two, held, stay);
            draws(two, held);
        }
    }

    /** Beats times the chance that just so many are held. */
    private void mean(int[] two, int held, BigInteger stay) {
        int last = Math.min(15, held);
        BigInteger ten = BigInteger.TEN;
        BigInteger above = BigInteger.ZERO;
        for (int n = 0; n <= last; n++) {
            BigInteger slip = n == last ? BigInteger.ONE : BigInteger.valueOf(odds);
            BigInteger rest = ten.pow(n == last ? 0 : last - n - 1);
            above = above.add(stay.pow(n).multiply(slip).multiply(rest).multiply(BigInteger.valueOf(n)));
        }
        fraction("mean", x.mean(two[0], two[1], 0), x.mean(two[0], two[1], 1), above, ten.pow(last));
    }

    private int drawn(int seed, int held) {
        BigInteger drawing = BigInteger.valueOf(seed);
        for (int beat = 0; beat < held; beat++) {
            drawing = drawing.multiply(BigInteger.valueOf(1103515245)).add(BigInteger.valueOf(12345))
                    .mod(BigInteger.valueOf(2147483648L));
            if (drawing.divide(BigInteger.valueOf(65536)).mod(BigInteger.TEN).intValue() < odds) {
                return beat;
            }
        }
        return held;
    }

    private void draws(int[] two, int held) {
        int seed = random.nextInt(2000000001);
        CHECK.due("drawn", x.drawn(seed, two[1], two[0]), drawn(seed, held));
        for (int clause = 0; clause < clauses.size(); clause++) {
            int n = 1 + upTo(19);
            int luck = 0;
            for (int i = 0; i < n; i++) {
                luck += drawn(seed + i, held) >= clauses.get(clause)[0] ? 1 : 0;
            }
            CHECK.due("luck", x.luck(seed, n, two[0], two[1], clause), luck);
        }
    }

    // Evening

    private int latest;
    private int left;
    private int signed;
    private int met;

    /** Acts are kept as calls and done again from the first on to take one back. */
    private void evening() {
        List<int[]> acts = new ArrayList<>();
        replay(acts);
        for (int i = 0; i < 90; i++) {
            int kind = upTo(9);
            if (kind == 9) {
                CHECK.due("undo", x.undo(), acts.isEmpty() ? -5 : acts.size() - 1);
                if (!acts.isEmpty()) {
                    acts.remove(acts.size() - 1);
                }
                replay(acts);
            } else {
                int[] act = {kind < 2 ? 0 : kind < 4 ? 1 : kind < 7 ? 2 : 3, upTo(2), upTo(21) - 1};
                if (act[0] > 0) {
                    act[1] = upTo(9) - 1;
                    act[2] = upTo(9) - 1;
                }
                int due = act(act, acts.size());
                CHECK.due("act " + act[0], call(act), due);
                if (due > -2) {
                    acts.add(act);
                }
            }
            look(acts.size());
        }
    }

    private int call(int[] act) {
        switch (act[0]) {
            case 0: return x.push(act[1], act[2]);
            case 1: return x.swing(act[1], act[2]);
            case 2: return x.sign(act[1]);
            default: return x.drop();
        }
    }

    private void look(int acts) {
        int[] due = {latest, left, signed, sum(signed, 1), sum(signed, 2), met};
        for (int what = 0; what < due.length; what++) {
            CHECK.due("now " + what, x.now(what), due[what]);
        }
        CHECK.due("start", x.start(0), starts[0]);
        CHECK.due("start", x.start(1), starts[1]);
        CHECK.due("acts", x.count(7), acts);
    }

    private void replay(List<int[]> acts) {
        latest = -1;
        left = -1;
        signed = 0;
        met = 0;
        starts[0] = 0;
        starts[1] = 0;
        for (int[] act : acts) {
            act(act, 0);
        }
    }

    private int act(int[] act, int before) {
        switch (act[0]) {
            case 0: return actPush(act[1], act[2], before);
            case 1: return actSwing(act[1], act[2], before);
            case 2: return actSign(act[1], before);
            default:
                if (left < 0 || before == 60) {
                    return -5;
                }
                left = -1;
                return Integer.bitCount(signed);
        }
    }

    private int actPush(int side, int n, int before) {
        if (side > 1 || n < 0 || n > 19) {
            return -2;
        }
        if (left >= 0 || before == 60) {
            return -5;
        }
        starts[side] = (starts[side] + n) % fars[side];
        return starts[side];
    }

    private int actSwing(int man, int other, int before) {
        if (man < 0 || other < 0 || man >= men.size() || other >= men.size() || men.get(man)[0] == men.get(other)[0]) {
            return -2;
        }
        List<Integer> next = meetings(latest + 1, 10000, starts[0]);
        if (left >= 0 || before == 60 || next.isEmpty()) {
            return -5;
        }
        latest = next.get(0);
        left = hold(man, other);
        met++;
        return latest;
    }

    private int actSign(int clause, int before) {
        if (clause < 0 || clause >= clauses.size()) {
            return -2;
        }
        if (left < 0 || before == 60 || (signed >> clause & 1) == 1 || clauses.get(clause)[0] > left) {
            return -5;
        }
        signed |= 1 << clause;
        left -= clauses.get(clause)[0];
        return left;
    }
}
