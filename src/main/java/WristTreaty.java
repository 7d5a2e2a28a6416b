import java.util.Arrays;

/**
 * Trapeze treaties over a gorge, as shared/DOC.md promises them.
 *
 * Every row that a call needs is made with the object and used again, so that a call makes nothing.
 */
public final class WristTreaty {
    public static final int NONE = -1;

    private static final int NO_SUCH = -2;
    private static final int BELOW_ZERO = -3;
    private static final int FAULTY = -4;
    private static final int REFUSED = -5;
    private static final int NOTHING = -6;
    private static final int BEYOND = -7;
    private static final int UNLIKE = -8;
    private static final int NO_WORTH = -1000;

    private static final int MOST_MEN = 8;
    private static final int MOST_CLAUSES = 7;
    private static final int MOST_SETS = 128;
    private static final int MOST_WINDS = 4;
    private static final int MOST_GRIP = 30;
    private static final int MOST_BYTES = 800;
    private static final int MOST_ACTS = 60;
    private static final int MOST_SLOTS = 4;
    private static final int MOST_NUMBERS = 60;
    private static final int MOST_IMAGES = 3;

    private static final int LAST_BEAT = 10000;
    private static final int LAST_WINDY_BEAT = 999;
    private static final int MOST_HOLD = 99;
    private static final int GREATEST_SEED = 2000000000;

    private final Tape tape;
    private final Reader reader;
    private final Gorge gorge;
    private final Evening evening;
    private final Image[] images;
    private final Slots slots;
    private final Course course;
    private final Pairing pairing;
    private final Speech speech;
    private final Bargain bargain;
    private final Weary weary;

    public WristTreaty() {
        tape = new Tape();
        reader = new Reader(tape);
        gorge = new Gorge();
        evening = new Evening();
        images = new Image[MOST_IMAGES];
        for (int k = 0; k < MOST_IMAGES; k++) {
            images[k] = new Image();
        }
        slots = new Slots();
        course = new Course(gorge);
        pairing = new Pairing(gorge);
        speech = new Speech(gorge);
        bargain = new Bargain(gorge);
        weary = new Weary(gorge, slots);
    }

    // The text of a gorge

    public int feed(int a, int b, int c, int d, int e) {
        if (!tape.hasRoom(20)) {
            return NONE;
        }
        tape.append(a);
        tape.append(b);
        tape.append(c);
        tape.append(d);
        tape.append(e);
        return tape.length;
    }

    public int end(int n) {
        if (!isWithin(n, 0, tape.length)) {
            return NONE;
        }
        tape.length = n;
        return n;
    }

    public int gorge() {
        if (!reader.readAll()) {
            return FAULTY;
        }
        gorge.copyFrom(reader.draft);
        evening.clear();
        tape.length = 0;
        return gorge.lines;
    }

    public int fault(int what) {
        if (what == 0) {
            return reader.firstFault;
        }
        return what == 1 ? reader.faultPlace : NONE;
    }

    public int man(int man, int what) {
        if (!gorge.hasMan(man)) {
            return NO_SUCH;
        }
        switch (what) {
            case 0: return gorge.sideOf(man);
            case 1: return gorge.gripOf(man);
            case 2: return gorge.witsOf(man);
            default: return NO_SUCH;
        }
    }

    public int clause(int clause, int what) {
        if (!gorge.hasClause(clause)) {
            return NO_WORTH;
        }
        switch (what) {
            case 0: return gorge.lengthOf(clause);
            case 1: return gorge.giftOf(clause, 0);
            case 2: return gorge.giftOf(clause, 1);
            default: return NO_WORTH;
        }
    }

    // Beats and meetings

    public int start(int side) {
        return gorge.hasSide(side) ? evening.startOf(side) : NO_SUCH;
    }

    public int out(int side, int beat) {
        if (!gorge.hasSide(side) || !isWithin(beat, 0, 2000000000)) {
            return NO_SUCH;
        }
        return restOf(beat - evening.startOf(side), gorge.farOf(side)) == 0 ? 1 : 0;
    }

    public int next(int beat) {
        if (!gorge.exists() || !isWithin(beat, 0, 5000)) {
            return NO_SUCH;
        }
        return courseOfNow().meetingFrom(beat);
    }

    public int meetings(int n) {
        if (!gorge.exists() || !isWithin(n, 0, LAST_BEAT)) {
            return NO_SUCH;
        }
        return courseOfNow().meetingsTo(n);
    }

    public int longest() {
        return gorge.exists() ? courseOfNow().longestGap(2000) : NO_SUCH;
    }

    public int able() {
        if (!gorge.exists()) {
            return NO_SUCH;
        }
        int starts = 0;
        for (int start = 0; start < gorge.farOf(0); start++) {
            course.lead(start, evening.startOf(1));
            if (course.first != NONE) {
                starts++;
            }
        }
        return starts;
    }

    public int soonest() {
        if (!gorge.exists()) {
            return NO_SUCH;
        }
        int best = NONE;
        int bestBeat = LAST_BEAT + 1;
        for (int start = 0; start < gorge.farOf(0); start++) {
            course.lead(start, evening.startOf(1));
            int beat = course.meetingFrom(0);
            if (beat != NONE && beat < bestBeat) {
                best = start;
                bestBeat = beat;
            }
        }
        return best;
    }

    public int often(int n) {
        if (!gorge.exists() || !isWithin(n, 0, 2000)) {
            return NO_SUCH;
        }
        int best = NONE;
        int most = 0;
        for (int start = 0; start < gorge.farOf(0); start++) {
            course.lead(start, evening.startOf(1));
            int met = course.meetingsTo(n);
            if (met > most) {
                best = start;
                most = met;
            }
        }
        return best;
    }

    public int kept() {
        return gorge.exists() ? courseOfNow().spoiled() : NO_SUCH;
    }

    public int meet(int n) {
        if (!gorge.exists() || !isWithin(n, 0, 999)) {
            return NO_SUCH;
        }
        return courseOfNow().meetingOf(n);
    }

    public int pushes(int beat) {
        if (!gorge.exists() || !isWithin(beat, 0, LAST_BEAT)) {
            return NO_SUCH;
        }
        boolean otherIsOut = restOf(beat - evening.startOf(1), gorge.farOf(1)) == 0;
        if (!otherIsOut || gorge.isWindy(beat)) {
            return NONE;
        }
        return restOf(beat - evening.startOf(0), gorge.farOf(0));
    }

    // Holds and pairs

    public int hold(int man, int other) {
        return gorge.holdOrRefusal(man, other);
    }

    public int pair() {
        if (!gorge.exists()) {
            return NO_SUCH;
        }
        int best = NONE;
        int greatest = 0;
        for (int man = 0; man < gorge.men; man++) {
            int other = gorge.sideOf(man) == 0 ? gorge.bestPartner(man) : NONE;
            if (other != NONE && gorge.holdOrRefusal(man, other) > greatest) {
                greatest = gorge.holdOrRefusal(man, other);
                best = 10 * man + other;
            }
        }
        return best;
    }

    public int partner(int man) {
        return gorge.hasMan(man) ? gorge.bestPartner(man) : NO_SUCH;
    }

    public int strong(int side) {
        if (!gorge.hasSide(side)) {
            return NO_SUCH;
        }
        int best = NONE;
        int greatest = 0;
        for (int man = 0; man < gorge.men; man++) {
            if (gorge.sideOf(man) == side && gorge.gripOf(man) > greatest) {
                best = man;
                greatest = gorge.gripOf(man);
            }
        }
        return best;
    }

    public int weak(int side) {
        if (!gorge.hasSide(side)) {
            return NO_SUCH;
        }
        int best = NONE;
        int smallest = MOST_GRIP + 1;
        for (int man = 0; man < gorge.men; man++) {
            if (gorge.sideOf(man) == side && gorge.gripOf(man) < smallest) {
                best = man;
                smallest = gorge.gripOf(man);
            }
        }
        return best;
    }

    public int match() {
        if (!gorge.exists()) {
            return NO_SUCH;
        }
        pairing.settle();
        return pairing.greatestSum;
    }

    public int matched(int man) {
        if (!gorge.hasMan(man)) {
            return NO_SUCH;
        }
        pairing.settle();
        return pairing.partnerOf(man);
    }

    public int loners() {
        if (!gorge.exists()) {
            return NO_SUCH;
        }
        pairing.settle();
        int alone = 0;
        for (int man = 0; man < gorge.men; man++) {
            if (pairing.partnerOf(man) == NONE) {
                alone |= 1 << man;
            }
        }
        return alone;
    }

    public int fair() {
        if (!gorge.exists()) {
            return NO_SUCH;
        }
        pairing.settle();
        return pairing.fairest;
    }

    public int resin(int man, int other, int n) {
        if (!isWithin(n, 0, gorge.pot)) {
            return NO_SUCH;
        }
        int held = gorge.holdOrRefusal(man, other);
        return held < 0 ? held : gorge.resinedHold(man, other, n);
    }

    public int spare(int man, int other) {
        int held = gorge.holdOrRefusal(man, other);
        if (held < 0) {
            return held;
        }
        int greatest = gorge.resinedHold(man, other, gorge.pot);
        for (int n = 0; n < gorge.pot; n++) {
            if (gorge.resinedHold(man, other, n) == greatest) {
                return n;
            }
        }
        return gorge.pot;
    }

    // Clauses said in meetings

    public int cut(int slot, int hold) {
        int refusal = saidRefusal(slot, hold);
        return refusal != 0 ? refusal : speech.meetingsFor(slots, slot, hold);
    }

    public int waits(int slot, int hold) {
        int refusal = saidRefusal(slot, hold);
        return refusal != 0 ? refusal : speech.firstToWait(slots, slot, hold);
    }

    public int least(int hold) {
        return isHold(hold, 1) ? speech.fewestMeetings(hold) : NO_SUCH;
    }

    public int order(int hold, int i) {
        return isHold(hold, 1) ? speech.clauseInOrder(hold, i) : NO_SUCH;
    }

    public int needs(int n) {
        if (!gorge.exists() || !isWithin(n, 1, 7)) {
            return NO_SUCH;
        }
        return speech.leastHold(n);
    }

    public int ends(int hold) {
        if (!isHold(hold, 1)) {
            return NO_SUCH;
        }
        int fewest = speech.fewestMeetings(hold);
        return fewest < 1 ? NONE : courseOfNow().meetingOf(fewest - 1);
    }

    public int full(int hold) {
        return isHold(hold, 0) ? Integer.bitCount(bargain.largestSaid(hold)) : NO_SUCH;
    }

    public int fulls(int hold) {
        return isHold(hold, 0) ? bargain.largestSaid(hold) : NO_SUCH;
    }

    public int once(int hold) {
        return isHold(hold, 0) ? bargain.worthOfBoth(bargain.richestSaid(hold)) : NO_SUCH;
    }

    public int onces(int hold) {
        return isHold(hold, 0) ? bargain.richestSaid(hold) : NO_SUCH;
    }

    // What both would sign

    public int worth(int set, int side) {
        if (!gorge.hasSide(side) || !isWithin(set, 0, gorge.allClauses())) {
            return NO_WORTH;
        }
        return gorge.worthOf(set, side);
    }

    public int signs() {
        return gorge.exists() ? bargain.signedSets() : NO_SUCH;
    }

    public int deal() {
        return gorge.exists() ? bargain.bestDeal() : NO_SUCH;
    }

    public int even() {
        return gorge.exists() ? bargain.greatestLesser() : NO_SUCH;
    }

    public int veto(int side) {
        if (!gorge.hasSide(side)) {
            return NO_SUCH;
        }
        int against = 0;
        for (int clause = 0; clause < gorge.clauses; clause++) {
            if (gorge.giftOf(clause, side) < 0) {
                against |= 1 << clause;
            }
        }
        return against;
    }

    public int must(int side) {
        return gorge.hasSide(side) ? Integer.bitCount(bargain.leftOut(side)) : NO_SUCH;
    }

    public int musts(int side) {
        return gorge.hasSide(side) ? bargain.leftOut(side) : NO_SUCH;
    }

    public int bundles() {
        if (!gorge.exists()) {
            return NO_SUCH;
        }
        bargain.findBundles();
        return bargain.bundlesFound;
    }

    public int bundle() {
        if (!gorge.exists()) {
            return NO_SUCH;
        }
        bargain.findBundles();
        return bargain.firstBundle;
    }

    public int firm() {
        return gorge.exists() ? bargain.firmSets() : NO_SUCH;
    }

    public int rests(int clause, int cost) {
        if (!gorge.hasClause(clause) || !isWithin(cost, 0, 99)) {
            return NO_SUCH;
        }
        // Neither offering is always at rest: who offers alone never gains.
        int resting = 1;
        if (bothOfferAtRest(clause)) {
            resting++;
        }
        // Who offers alone stays with it only where that is free, the other one only if the clause gains nothing.
        if (cost == 0 && gorge.giftOf(clause, 1) <= 0) {
            resting++;
        }
        if (cost == 0 && gorge.giftOf(clause, 0) <= 0) {
            resting++;
        }
        return resting;
    }

    public int stands() {
        if (!gorge.exists()) {
            return NO_SUCH;
        }
        int standing = 0;
        for (int clause = 0; clause < gorge.clauses; clause++) {
            if (bothOfferAtRest(clause)) {
                standing |= 1 << clause;
            }
        }
        return standing;
    }

    // Who was tired

    public int fits(int slot) {
        int refusal = toldRefusal(slot);
        if (refusal != 0) {
            return refusal;
        }
        weary.gather(slot);
        return weary.fitting;
    }

    public int tired(int slot) {
        int refusal = toldRefusal(slot);
        if (refusal != 0) {
            return refusal;
        }
        weary.gather(slot);
        int suspects = 0;
        for (int man = 0; man < gorge.men; man++) {
            if (weary.leastLoss(man) != NONE) {
                suspects |= 1 << man;
            }
        }
        return suspects;
    }

    public int by(int slot, int man) {
        int refusal = gorge.hasMan(man) ? toldRefusal(slot) : NO_SUCH;
        if (refusal != 0) {
            return refusal;
        }
        weary.gather(slot);
        return weary.leastLoss(man);
    }

    public int ask(int slot) {
        int refusal = toldRefusal(slot);
        if (refusal != 0) {
            return refusal;
        }
        weary.gather(slot);
        return weary.bestQuestion();
    }

    // Chances of slips

    public long chance(int man, int other, int n, int what) {
        if (!isWithin(n, 0, 18) || !isWithin(what, 0, 1)) {
            return NO_SUCH;
        }
        int held = gorge.holdOrRefusal(man, other);
        if (held < 0) {
            return held;
        }
        long above = n > held ? 0 : powerOf(10 - gorge.odds, n);
        return lowestTerm(above, powerOf(10, n), what);
    }

    public int sure(int man, int other, int p) {
        if (!isWithin(p, 0, 100)) {
            return NO_SUCH;
        }
        int held = gorge.holdOrRefusal(man, other);
        if (held < 0) {
            return held;
        }
        int most = 0;
        for (int n = 1; n <= Math.min(18, held); n++) {
            if (isAsLikely(n, p)) {
                most = n;
            }
        }
        return most;
    }

    public long mean(int man, int other, int what) {
        if (!isWithin(what, 0, 1)) {
            return NO_SUCH;
        }
        int held = gorge.holdOrRefusal(man, other);
        if (held < 0) {
            return held;
        }
        // The mean is the sum of the chances to hold 1, 2, .. beats, over one denominator.
        int beats = Math.min(15, held);
        long above = 0;
        for (int n = 1; n <= beats; n++) {
            above += powerOf(10 - gorge.odds, n) * powerOf(10, beats - n);
        }
        return lowestTerm(above, powerOf(10, beats), what);
    }

    // The evening

    public int push(int side, int n) {
        if (!gorge.hasSide(side) || !isWithin(n, 0, 19)) {
            return NO_SUCH;
        }
        if (evening.isHolding() || evening.isOver()) {
            return REFUSED;
        }
        evening.moveStart(side, restOf(evening.startOf(side) + n, gorge.farOf(side)));
        return evening.startOf(side);
    }

    public int swing(int man, int other) {
        int held = gorge.holdOrRefusal(man, other);
        if (held < 0) {
            return NO_SUCH;
        }
        if (evening.isHolding() || evening.isOver()) {
            return REFUSED;
        }
        // NONE is one below BEAT 0: behind no meeting the search begins with BEAT 0.
        int beat = courseOfNow().meetingFrom(evening.latest + 1);
        if (beat == NONE) {
            return REFUSED;
        }
        evening.takeHold(beat, held);
        return beat;
    }

    public int sign(int clause) {
        if (!gorge.hasClause(clause)) {
            return NO_SUCH;
        }
        if (!evening.isHolding() || evening.isOver() || evening.hasSigned(clause)
                || gorge.lengthOf(clause) > evening.left) {
            return REFUSED;
        }
        evening.putName(clause, gorge.lengthOf(clause));
        return evening.left;
    }

    public int drop() {
        if (!gorge.exists()) {
            return NO_SUCH;
        }
        if (!evening.isHolding() || evening.isOver()) {
            return REFUSED;
        }
        evening.letGo();
        return Integer.bitCount(evening.signed);
    }

    public int now(int what) {
        if (!gorge.exists()) {
            return NO_WORTH;
        }
        switch (what) {
            case 0: return evening.latest;
            case 1: return evening.left;
            case 2: return evening.signed;
            case 3: return gorge.worthOf(evening.signed, 0);
            case 4: return gorge.worthOf(evening.signed, 1);
            case 5: return evening.met;
            default: return NO_WORTH;
        }
    }

    public int undo() {
        if (!gorge.exists()) {
            return NO_SUCH;
        }
        if (evening.acts < 1) {
            return REFUSED;
        }
        evening.takeBack();
        return evening.acts;
    }

    public int anew() {
        if (!gorge.exists()) {
            return NO_SUCH;
        }
        int acts = evening.acts;
        evening.clear();
        return acts;
    }

    public int drawn(int seed, int man, int other) {
        if (!isWithin(seed, 0, GREATEST_SEED)) {
            return NO_SUCH;
        }
        int held = gorge.holdOrRefusal(man, other);
        return held < 0 ? held : beatsDrawn(seed, held);
    }

    public int luck(int seed, int n, int man, int other, int clause) {
        if (!isWithin(seed, 0, GREATEST_SEED) || !isWithin(n, 1, 20) || !gorge.hasClause(clause)) {
            return NO_SUCH;
        }
        int held = gorge.holdOrRefusal(man, other);
        if (held < 0) {
            return held;
        }
        int whole = 0;
        for (int i = 0; i < n; i++) {
            if (beatsDrawn(seed + i, held) >= gorge.lengthOf(clause)) {
                whole++;
            }
        }
        return whole;
    }

    public int grip(int man, int n) {
        if (!gorge.hasMan(man) || !isWithin(n, 1, MOST_GRIP)) {
            return NO_SUCH;
        }
        if (evening.acts > 0) {
            return REFUSED;
        }
        int before = gorge.gripOf(man);
        gorge.setGrip(man, n);
        return before;
    }

    public int count(int what) {
        switch (what) {
            case 0: return gorge.farOf(0);
            case 1: return gorge.farOf(1);
            case 2: return gorge.odds;
            case 3: return gorge.pot;
            case 4: return gorge.men;
            case 5: return gorge.clauses;
            case 6: return gorge.winds;
            case 7: return evening.acts;
            case 8: return gorge.lines;
            case 9: return tape.length;
            case 10: return slots.withRow();
            default: return NONE;
        }
    }

    // Images

    public int image(int k) {
        if (!isWithin(k, 0, MOST_IMAGES - 1)) {
            return NO_SUCH;
        }
        images[k].isTaken = true;
        images[k].gorge.copyFrom(gorge);
        images[k].evening.copyFrom(evening);
        return 0;
    }

    public int back(int k) {
        if (!isWithin(k, 0, MOST_IMAGES - 1)) {
            return NO_SUCH;
        }
        if (!images[k].isTaken) {
            return NOTHING;
        }
        gorge.copyFrom(images[k].gorge);
        evening.copyFrom(images[k].evening);
        return 0;
    }

    // Slots

    public int row(int slot, int width, int n) {
        if (!slots.has(slot) || !isWithin(width, 0, 3) || n > MOST_NUMBERS) {
            return NO_SUCH;
        }
        if (n < 0) {
            return BELOW_ZERO;
        }
        slots.make(slot, width, n);
        return 0;
    }

    public int write(int slot, int i, long v) {
        if (!slots.has(slot)) {
            return NO_SUCH;
        }
        if (slots.isBare(slot)) {
            return NOTHING;
        }
        if (!slots.hasPart(slot, i, 1)) {
            return BEYOND;
        }
        slots.put(slot, i, v);
        return 0;
    }

    public int paste(int slot, int i, int to, int k, int n) {
        if (!slots.has(slot) || !slots.has(to)) {
            return NO_SUCH;
        }
        if (slots.isBare(slot) || slots.isBare(to)) {
            return NOTHING;
        }
        if (slots.widthOf(slot) != slots.widthOf(to)) {
            return UNLIKE;
        }
        if (!slots.hasPart(slot, i, n) || !slots.hasPart(to, k, n)) {
            return BEYOND;
        }
        slots.move(slot, i, to, k, n);
        return 0;
    }

    // What several calls share

    private static boolean isWithin(int x, int low, int high) {
        return x >= low && x <= high;
    }

    /** The rest, 0 or more; a far is 1 at least, so the guard only keeps a gorge that is none from dividing. */
    private static int restOf(int x, int divisor) {
        return divisor > 0 ? Math.floorMod(x, divisor) : 0;
    }

    private Course courseOfNow() {
        course.lead(evening.startOf(0), evening.startOf(1));
        return course;
    }

    private boolean isHold(int hold, int low) {
        return gorge.exists() && isWithin(hold, low, MOST_HOLD);
    }

    private boolean bothOfferAtRest(int clause) {
        return gorge.giftOf(clause, 0) >= 0 && gorge.giftOf(clause, 1) >= 0;
    }

    /** 0, or why a row of clauses can't be said; its numbers are looked at last, as the document has it. */
    private int saidRefusal(int slot, int hold) {
        if (!isHold(hold, 1) || !slots.has(slot)) {
            return NO_SUCH;
        }
        if (slots.isBare(slot)) {
            return NOTHING;
        }
        return speech.isRowOfClauses(slots, slot) ? 0 : NO_SUCH;
    }

    /** 0, or why a row does not tell who held whom how long. */
    private int toldRefusal(int slot) {
        if (!gorge.exists() || !slots.has(slot)) {
            return NO_SUCH;
        }
        if (slots.isBare(slot)) {
            return NOTHING;
        }
        return weary.isTold(slot) ? 0 : NO_SUCH;
    }

    /** Whether n (1 .. 18) beats are held with p in a hundred; a hundred is taken off both sides to stay in a long. */
    private boolean isAsLikely(int n, int p) {
        long above = powerOf(10 - gorge.odds, n);
        return n < 2 ? above * 10 >= p : above >= p * powerOf(10, n - 2);
    }

    private int beatsDrawn(int seed, int held) {
        long x = seed;
        for (int beat = 0; beat < held; beat++) {
            x = (1103515245L * x + 12345L) & 0x7FFFFFFFL;
            if ((x >> 16) % 10 < gorge.odds) {
                return beat;
            }
        }
        return held;
    }

    private static long powerOf(long base, int n) {
        long power = 1;
        for (int i = 0; i < n; i++) {
            power *= base;
        }
        return power;
    }

    private static long lowestTerm(long above, long below, int what) {
        long shared = sharedDivisor(above, below);
        if (shared < 1) {
            return 0;
        }
        return what == 0 ? above / shared : below / shared;
    }

    private static long sharedDivisor(long a, long b) {
        // Two steps halve the greater one, so that 200 are beyond what any two longs need.
        for (int i = 0; i < 200 && b != 0; i++) {
            long rest = a % b;
            a = b;
            b = rest;
        }
        return a;
    }

    /** The bytes that were fed and not yet read. */
    private static final class Tape {
        final byte[] bytes = new byte[MOST_BYTES];
        int length;

        boolean hasRoom(int more) {
            return length + more <= MOST_BYTES;
        }

        void append(int four) {
            for (int shift = 24; shift >= 0; shift -= 8) {
                if (length < MOST_BYTES) {
                    bytes[length] = (byte) (four >> shift);
                    length++;
                }
            }
        }

        /** A byte as 0 .. 255, NONE behind the last one. */
        int byteAt(int i) {
            return i >= 0 && i < length && i < MOST_BYTES ? bytes[i] & 255 : NONE;
        }
    }

    /** A gorge as its text tells it; without lines there is none. */
    private static final class Gorge {
        int odds;
        int pot;
        int lines;
        int men;
        int clauses;
        int winds;
        private int far0;
        private int far1;
        private final int[] sides = new int[MOST_MEN];
        private final int[] grips = new int[MOST_MEN];
        private final int[] wits = new int[MOST_MEN];
        private final int[] says = new int[MOST_CLAUSES];
        private final int[] gives0 = new int[MOST_CLAUSES];
        private final int[] gives1 = new int[MOST_CLAUSES];
        private final int[] froms = new int[MOST_WINDS];
        private final int[] tos = new int[MOST_WINDS];

        void clear() {
            setFars(0, 0);
            odds = 0;
            pot = 0;
            lines = 0;
            men = 0;
            clauses = 0;
            winds = 0;
        }

        void copyFrom(Gorge other) {
            setFars(other.far0, other.far1);
            odds = other.odds;
            pot = other.pot;
            lines = other.lines;
            men = other.men;
            clauses = other.clauses;
            winds = other.winds;
            System.arraycopy(other.sides, 0, sides, 0, MOST_MEN);
            System.arraycopy(other.grips, 0, grips, 0, MOST_MEN);
            System.arraycopy(other.wits, 0, wits, 0, MOST_MEN);
            System.arraycopy(other.says, 0, says, 0, MOST_CLAUSES);
            System.arraycopy(other.gives0, 0, gives0, 0, MOST_CLAUSES);
            System.arraycopy(other.gives1, 0, gives1, 0, MOST_CLAUSES);
            System.arraycopy(other.froms, 0, froms, 0, MOST_WINDS);
            System.arraycopy(other.tos, 0, tos, 0, MOST_WINDS);
        }

        boolean exists() {
            return lines > 0;
        }

        boolean hasSide(int side) {
            return exists() && isWithin(side, 0, 1);
        }

        boolean hasMan(int man) {
            return man >= 0 && man < men && man < MOST_MEN;
        }

        boolean hasClause(int clause) {
            return clause >= 0 && clause < clauses && clause < MOST_CLAUSES;
        }

        int allClauses() {
            return (1 << clauses) - 1;
        }

        int farOf(int side) {
            return side == 0 ? far0 : far1;
        }

        int sideOf(int man) {
            return hasMan(man) ? sides[man] : NONE;
        }

        int gripOf(int man) {
            return hasMan(man) ? grips[man] : NONE;
        }

        int witsOf(int man) {
            return hasMan(man) ? wits[man] : NONE;
        }

        int lengthOf(int clause) {
            return hasClause(clause) ? says[clause] : 0;
        }

        void setFars(int ofSide0, int ofSide1) {
            far0 = ofSide0;
            far1 = ofSide1;
        }

        void setGrip(int man, int strength) {
            if (hasMan(man)) {
                grips[man] = strength;
            }
        }

        void addMan(int side, int strength, int wit) {
            if (men < MOST_MEN) {
                sides[men] = side;
                grips[men] = strength;
                wits[men] = wit;
                men++;
            }
        }

        void addClause(int length, int gift0, int gift1) {
            if (clauses < MOST_CLAUSES) {
                says[clauses] = length;
                gives0[clauses] = gift0;
                gives1[clauses] = gift1;
                clauses++;
            }
        }

        void addWind(int from, int to) {
            if (winds < MOST_WINDS) {
                froms[winds] = from;
                tos[winds] = to;
                winds++;
            }
        }

        boolean isWindy(int beat) {
            if (beat > LAST_WINDY_BEAT) {
                return false;
            }
            for (int wind = 0; wind < winds && wind < MOST_WINDS; wind++) {
                if (isWithin(beat, froms[wind], tos[wind])) {
                    return true;
                }
            }
            return false;
        }

        /** A hold is 1 at least, so that what is below 0 tells why there is none. */
        int holdOrRefusal(int man, int other) {
            if (!hasMan(man) || !hasMan(other)) {
                return NO_SUCH;
            }
            if (sides[man] == sides[other]) {
                return NONE;
            }
            return holdByGrips(man, other, grips[man], grips[other]);
        }

        int holdByGrips(int man, int other, int gripOfMan, int gripOfOther) {
            if (!hasMan(man) || !hasMan(other)) {
                return NO_SUCH;
            }
            return Math.min(gripOfMan, gripOfOther) + Math.min(wits[man], wits[other]);
        }

        int resinedHold(int man, int other, int n) {
            if (!hasMan(man) || !hasMan(other)) {
                return NO_SUCH;
            }
            int greatest = 0;
            for (int part = 0; part <= n; part++) {
                int held = holdByGrips(man, other, grips[man] + 2 * part, grips[other] + 2 * (n - part));
                greatest = Math.max(greatest, held);
            }
            return greatest;
        }

        int bestPartner(int man) {
            int best = NONE;
            int greatest = 0;
            for (int other = 0; other < men; other++) {
                int held = holdOrRefusal(man, other);
                if (held > greatest) {
                    best = other;
                    greatest = held;
                }
            }
            return best;
        }

        int giftOf(int clause, int side) {
            if (!hasClause(clause)) {
                return 0;
            }
            return side == 0 ? gives0[clause] : gives1[clause];
        }

        int worthOf(int set, int side) {
            int sum = 0;
            for (int clause = 0; clause < clauses; clause++) {
                if ((set >> clause & 1) == 1) {
                    sum += giftOf(clause, side);
                }
            }
            return sum;
        }
    }

    /** Reads the tape into a draft, token by token, so that a fault leaves the gorge of now alone. */
    private static final class Reader {
        private static final int END = 0;
        private static final int WORD = 1;
        private static final int NUMBER = 2;
        private static final int SIGN = 3;
        private static final int STRANGE = 4;

        private static final int MISPLACED = 1;
        private static final int OUT_OF_BOUNDS = 2;
        private static final int TOO_MANY = 3;

        private static final int GORGE = 0;
        private static final int MAN = 1;
        private static final int CLAUSE = 2;
        private static final int WIND = 3;
        private static final int POT = 4;
        private static final int NO_LINE = 5;

        // Three places for each kind of line, in the order of the kinds.
        private static final int[] AMOUNTS = {3, 3, 3, 2, 1};
        private static final int[] LOWS = {1, 1, 0, 0, 1, 0, 1, 0, 0, 0, 0, 0, 0, 0, 0};
        private static final int[] HIGHS = {20, 20, 10, 1, 30, 9, 30, 99, 99, 999, 999, 0, 20, 0, 0};

        final Gorge draft = new Gorge();
        int firstFault;
        int faultPlace = NONE;
        private final Tape tape;
        private int at;
        private int kind;
        private int begin;
        private int value;
        private int line;
        private int taken;
        private boolean isWordDue;
        private boolean isTaking;
        private final int[] numbers = new int[3];

        Reader(Tape tape) {
            this.tape = tape;
        }

        /** Whether the tape is a gorge; tokens come by their places, so that the first fault met is the one told. */
        boolean readAll() {
            draft.clear();
            firstFault = 0;
            faultPlace = NONE;
            at = 0;
            line = NO_LINE;
            for (int tokens = 0; tokens <= MOST_BYTES && firstFault == 0; tokens++) {
                readToken();
                if (kind == END && line == NO_LINE) {
                    return true;
                }
                acceptToken();
            }
            return false;
        }

        private void readToken() {
            while (at < tape.length && isBlank(tape.byteAt(at))) {
                at++;
            }
            begin = at;
            kind = kindOf(tape.byteAt(at));
            if (kind == WORD || kind == NUMBER) {
                readLongest();
            } else if (kind != END) {
                at++;
            }
        }

        /** The value of a word is never asked for. */
        private void readLongest() {
            value = 0;
            while (at < tape.length && kindOf(tape.byteAt(at)) == kind) {
                // Every bound is far below, so that longer numbers need not be told from this one.
                value = Math.min(99999, 10 * value + tape.byteAt(at) - '0');
                at++;
            }
        }

        private void acceptToken() {
            if (!isWithin(line, GORGE, POT)) {
                openLine();
            } else if (taken >= AMOUNTS[line]) {
                closeLine();
            } else if (isWordDue) {
                acceptWord();
            } else {
                acceptNumber();
            }
        }

        private void openLine() {
            int opened = lineOfWord();
            boolean isFirst = draft.lines == 0;
            if (opened == NO_LINE || isFirst != (opened == GORGE)) {
                fail(MISPLACED);
            } else if (hasAll(opened)) {
                fail(TOO_MANY);
            } else {
                line = opened;
                taken = 0;
                isWordDue = opened != POT;
                isTaking = false;
            }
        }

        private void closeLine() {
            if (kind != SIGN) {
                fail(MISPLACED);
                return;
            }
            switch (line) {
                case GORGE:
                    draft.setFars(numbers[0], numbers[1]);
                    draft.odds = numbers[2];
                    break;
                case MAN:
                    draft.addMan(numbers[0], numbers[1], numbers[2]);
                    break;
                case CLAUSE:
                    draft.addClause(numbers[0], numbers[1], numbers[2]);
                    break;
                case WIND:
                    draft.addWind(numbers[0], numbers[1]);
                    break;
                default:
                    draft.pot = numbers[0];
                    break;
            }
            draft.lines++;
            line = NO_LINE;
        }

        private void acceptWord() {
            boolean isGift = line == CLAUSE && taken > 0;
            isTaking = isGift && isWord("takes");
            if (isTaking || isWord(wordDue())) {
                isWordDue = false;
            } else {
                fail(MISPLACED);
            }
        }

        private void acceptNumber() {
            if (kind != NUMBER || !isWithin(line, GORGE, POT) || !isWithin(taken, 0, 2)) {
                fail(MISPLACED);
                return;
            }
            int bounds = 3 * line + taken;
            // A wind may not end ahead of its first beat.
            int low = line == WIND && taken == 1 ? numbers[0] : LOWS[bounds];
            if (!isWithin(value, low, HIGHS[bounds])) {
                fail(OUT_OF_BOUNDS);
                return;
            }
            numbers[taken] = isTaking ? -value : value;
            taken++;
            isWordDue = true;
        }

        private void fail(int number) {
            firstFault = number;
            faultPlace = begin;
        }

        private boolean hasAll(int opened) {
            return opened == MAN && draft.men >= MOST_MEN
                    || opened == CLAUSE && draft.clauses >= MOST_CLAUSES
                    || opened == WIND && draft.winds >= MOST_WINDS;
        }

        private int lineOfWord() {
            if (isWord("gorge")) {
                return GORGE;
            }
            if (isWord("man")) {
                return MAN;
            }
            if (isWord("clause")) {
                return CLAUSE;
            }
            if (isWord("wind")) {
                return WIND;
            }
            return isWord("pot") ? POT : NO_LINE;
        }

        private String wordDue() {
            switch (3 * line + taken) {
                case 2: return "odds";
                case 3: return "on";
                case 4: return "grip";
                case 5: return "wits";
                case 6: return "says";
                case 7:
                case 8: return "gives";
                case 9: return "from";
                case 10: return "to";
                default: return "far";
            }
        }

        private boolean isWord(String word) {
            if (kind != WORD || at - begin != word.length()) {
                return false;
            }
            for (int i = 0; i < word.length(); i++) {
                if (tape.byteAt(begin + i) != word.charAt(i)) {
                    return false;
                }
            }
            return true;
        }

        private static boolean isBlank(int b) {
            return b == 32 || b == 10;
        }

        private static int kindOf(int b) {
            if (b == NONE) {
                return END;
            }
            if (isWithin(b, 'a', 'z')) {
                return WORD;
            }
            if (isWithin(b, '0', '9')) {
                return NUMBER;
            }
            return b == ';' ? SIGN : STRANGE;
        }
    }

    /** What was done in a gorge; each act keeps what it changed, so that it can be taken back. */
    private static final class Evening {
        private static final int PUSHED = 0;
        private static final int SWUNG = 1;
        private static final int SIGNED = 2;
        private static final int DROPPED = 3;

        int latest = NONE;
        int left = NONE;
        int signed;
        int met;
        int acts;
        private int start0;
        private int start1;
        private final int[] kinds = new int[MOST_ACTS];
        private final int[] whats = new int[MOST_ACTS];
        private final int[] befores = new int[MOST_ACTS];

        void clear() {
            latest = NONE;
            left = NONE;
            signed = 0;
            met = 0;
            acts = 0;
            start0 = 0;
            start1 = 0;
        }

        void copyFrom(Evening other) {
            latest = other.latest;
            left = other.left;
            signed = other.signed;
            met = other.met;
            acts = other.acts;
            start0 = other.start0;
            start1 = other.start1;
            System.arraycopy(other.kinds, 0, kinds, 0, MOST_ACTS);
            System.arraycopy(other.whats, 0, whats, 0, MOST_ACTS);
            System.arraycopy(other.befores, 0, befores, 0, MOST_ACTS);
        }

        int startOf(int side) {
            return side == 0 ? start0 : start1;
        }

        boolean isHolding() {
            return left != NONE;
        }

        boolean isOver() {
            return acts >= MOST_ACTS;
        }

        boolean hasSigned(int clause) {
            return (signed >> clause & 1) == 1;
        }

        void moveStart(int side, int start) {
            note(PUSHED, side, startOf(side));
            setStart(side, start);
        }

        void takeHold(int beat, int held) {
            note(SWUNG, 0, latest);
            latest = beat;
            left = held;
            met++;
        }

        void putName(int clause, int length) {
            note(SIGNED, clause, left);
            left -= length;
            signed |= 1 << clause;
        }

        void letGo() {
            note(DROPPED, 0, left);
            left = NONE;
        }

        void takeBack() {
            if (!isWithin(acts, 1, MOST_ACTS)) {
                return;
            }
            acts--;
            int before = befores[acts];
            switch (kinds[acts]) {
                case PUSHED:
                    setStart(whats[acts], before);
                    break;
                case SWUNG:
                    latest = before;
                    left = NONE;
                    met--;
                    break;
                case SIGNED:
                    left = before;
                    signed &= ~(1 << whats[acts]);
                    break;
                default:
                    left = before;
                    break;
            }
        }

        private void setStart(int side, int start) {
            if (side == 0) {
                start0 = start;
            } else {
                start1 = start;
            }
        }

        private void note(int kind, int what, int before) {
            if (acts < MOST_ACTS) {
                kinds[acts] = kind;
                whats[acts] = what;
                befores[acts] = before;
                acts++;
            }
        }
    }

    private static final class Image {
        final Gorge gorge = new Gorge();
        final Evening evening = new Evening();
        boolean isTaken;
    }

    /** Rows of numbers, side by side in one array. */
    private static final class Slots {
        private final int[] sizes = new int[MOST_SLOTS];
        private final int[] widths = new int[MOST_SLOTS];
        private final long[] numbers = new long[MOST_SLOTS * MOST_NUMBERS];

        Slots() {
            Arrays.fill(sizes, NONE);
        }

        boolean has(int slot) {
            return slot >= 0 && slot < MOST_SLOTS;
        }

        boolean isBare(int slot) {
            return sizeOf(slot) == NONE;
        }

        /** NONE: the slot has no row. */
        int sizeOf(int slot) {
            return has(slot) ? sizes[slot] : NONE;
        }

        int widthOf(int slot) {
            return has(slot) ? widths[slot] : NONE;
        }

        int withRow() {
            int rows = 0;
            for (int slot = 0; slot < MOST_SLOTS; slot++) {
                if (!isBare(slot)) {
                    rows++;
                }
            }
            return rows;
        }

        void make(int slot, int width, int n) {
            if (has(slot) && isWithin(n, 0, MOST_NUMBERS)) {
                sizes[slot] = n;
                widths[slot] = width;
                for (int i = 0; i < n; i++) {
                    numbers[slot * MOST_NUMBERS + i] = 0;
                }
            }
        }

        boolean hasPart(int slot, int i, int n) {
            return has(slot) && isWithin(n, 0, sizes[slot]) && isWithin(i, 0, sizes[slot] - n);
        }

        void put(int slot, int i, long v) {
            if (hasPart(slot, i, 1)) {
                numbers[slot * MOST_NUMBERS + i] = cutTo(widths[slot], v);
            }
        }

        long numberAt(int slot, int i) {
            return hasPart(slot, i, 1) ? numbers[slot * MOST_NUMBERS + i] : NONE;
        }

        void move(int slot, int i, int to, int k, int n) {
            if (hasPart(slot, i, n) && hasPart(to, k, n)) {
                System.arraycopy(numbers, slot * MOST_NUMBERS + i, numbers, to * MOST_NUMBERS + k, n);
            }
        }

        private static long cutTo(int width, long v) {
            switch (width) {
                case 0: return (byte) v;
                case 1: return (short) v;
                case 2: return (int) v;
                default: return v;
            }
        }
    }

    /** The beats in which both are out by two starts: a first one, and one every stride. */
    private static final class Course {
        int first = NONE;
        private int stride = 1;
        private final Gorge gorge;

        Course(Gorge gorge) {
            this.gorge = gorge;
        }

        void lead(int start0, int start1) {
            int far0 = gorge.farOf(0);
            int far1 = gorge.farOf(1);
            first = NONE;
            stride = Math.max(1, far0 * far1);
            for (int i = 0; i < far1 && first == NONE; i++) {
                int beat = start0 + i * far0;
                if (restOf(beat - start1, far1) == 0) {
                    first = beat;
                }
            }
            for (int i = 1; i <= far1; i++) {
                if (restOf(i * far0, far1) == 0) {
                    stride = Math.max(1, i * far0);
                    return;
                }
            }
        }

        int meetingFrom(int from) {
            if (first == NONE) {
                return NONE;
            }
            int beat = Math.max(from, first);
            for (beat += restOf(first - beat, stride); beat <= LAST_BEAT; beat += stride) {
                if (!gorge.isWindy(beat)) {
                    return beat;
                }
            }
            return NONE;
        }

        int meetingsTo(int last) {
            int met = 0;
            for (int beat = first; beat != NONE && beat <= last; beat += stride) {
                if (!gorge.isWindy(beat)) {
                    met++;
                }
            }
            return met;
        }

        int meetingOf(int n) {
            int met = 0;
            for (int beat = first; beat != NONE && beat <= LAST_BEAT; beat += stride) {
                if (!gorge.isWindy(beat)) {
                    if (met == n) {
                        return beat;
                    }
                    met++;
                }
            }
            return NONE;
        }

        int longestGap(int last) {
            int longest = NONE;
            int before = NONE;
            for (int beat = first; beat != NONE && beat <= last; beat += stride) {
                if (!gorge.isWindy(beat)) {
                    if (before != NONE) {
                        longest = Math.max(longest, beat - before);
                    }
                    before = beat;
                }
            }
            return longest;
        }

        int spoiled() {
            int beats = 0;
            for (int beat = first; beat != NONE && beat <= LAST_WINDY_BEAT; beat += stride) {
                if (gorge.isWindy(beat)) {
                    beats++;
                }
            }
            return beats;
        }
    }

    /** Tries every way to go in pairs; with eight men there are 209 at most. */
    private static final class Pairing {
        private final int[] settled = new int[MOST_MEN];
        int greatestSum;
        int fairest;
        private final int[] tried = new int[MOST_MEN];
        private int mostPairs;
        private final Gorge gorge;

        Pairing(Gorge gorge) {
            this.gorge = gorge;
        }

        int partnerOf(int man) {
            return isWithin(man, 0, MOST_MEN - 1) ? settled[man] : NONE;
        }

        void settle() {
            Arrays.fill(tried, NONE);
            greatestSum = NONE;
            fairest = 0;
            int ofSide1 = 0;
            for (int man = 0; man < gorge.men; man++) {
                ofSide1 += gorge.sideOf(man);
            }
            mostPairs = Math.min(ofSide1, gorge.men - ofSide1);
            tryMan(0, 0, 0, LAST_BEAT);
        }

        /** Partners are tried from the least on and none at last: of ways with one sum the first is kept. */
        private void tryMan(int man, int pairs, int sum, int smallest) {
            if (!gorge.hasMan(man)) {
                weigh(pairs, sum, smallest);
                return;
            }
            if (gorge.sideOf(man) == 0) {
                for (int other = 0; other < gorge.men; other++) {
                    if (gorge.sideOf(other) == 1 && tried[other] == NONE) {
                        int held = gorge.holdOrRefusal(man, other);
                        tried[man] = other;
                        tried[other] = man;
                        tryMan(man + 1, pairs + 1, sum + held, Math.min(smallest, held));
                        tried[man] = NONE;
                        tried[other] = NONE;
                    }
                }
            }
            tryMan(man + 1, pairs, sum, smallest);
        }

        private void weigh(int pairs, int sum, int smallest) {
            if (sum > greatestSum) {
                greatestSum = sum;
                System.arraycopy(tried, 0, settled, 0, MOST_MEN);
            }
            if (pairs > 0 && pairs == mostPairs) {
                fairest = Math.max(fairest, smallest);
            }
        }
    }

    /**
     * Clauses cut into meetings. How far a row has come is one number: 1,000 times the meetings begun, and the beats
     * of the last one that are gone; of two ways through the same clauses the lesser one is never worse.
     */
    private static final class Speech {
        private static final int MEETING = 1000;
        private static final int BEYOND_ALL = (MOST_CLAUSES + 1) * MEETING;

        private final int[] reached = new int[MOST_SETS];
        private final Gorge gorge;

        Speech(Gorge gorge) {
            this.gorge = gorge;
        }

        boolean isRowOfClauses(Slots slots, int slot) {
            for (int i = 0; i < slots.sizeOf(slot); i++) {
                long number = slots.numberAt(slot, i);
                if (number < 0 || number >= gorge.clauses) {
                    return false;
                }
            }
            return true;
        }

        int meetingsFor(Slots slots, int slot, int hold) {
            int come = hold;
            for (int i = 0; i < slots.sizeOf(slot); i++) {
                int length = lengthOf(slots.numberAt(slot, i));
                if (length > hold) {
                    return NONE;
                }
                come = said(come, length, hold);
            }
            return come / MEETING;
        }

        int firstToWait(Slots slots, int slot, int hold) {
            int waiting = NONE;
            int come = hold;
            for (int i = 0; i < slots.sizeOf(slot); i++) {
                int length = lengthOf(slots.numberAt(slot, i));
                if (length > hold) {
                    return NONE;
                }
                int then = said(come, length, hold);
                if (i > 0 && waiting == NONE && then / MEETING > come / MEETING) {
                    waiting = i;
                }
                come = then;
            }
            return waiting;
        }

        int fewestMeetings(int hold) {
            return longestClause() > hold ? NONE : fewestFrom(hold, gorge.allClauses(), hold);
        }

        int clauseInOrder(int hold, int i) {
            int fewest = fewestMeetings(hold);
            if (fewest == NONE || !gorge.hasClause(i)) {
                return NONE;
            }
            int come = hold;
            int rest = gorge.allClauses();
            int chosen = NONE;
            for (int place = 0; place <= i; place++) {
                chosen = leastNext(come, rest, hold, fewest);
                if (chosen == NONE) {
                    return NONE;
                }
                come = said(come, lengthOf(chosen), hold);
                rest &= ~(1 << chosen);
            }
            return chosen;
        }

        int leastHold(int n) {
            int low = longestClause();
            int high = 0;
            for (int clause = 0; clause < gorge.clauses; clause++) {
                high += gorge.lengthOf(clause);
            }
            // More hold never takes more meetings, and the sum of all, 210 at most, says them in one.
            for (int halvings = 0; halvings < 10 && low < high; halvings++) {
                int middle = (low + high) >> 1;
                if (fewestMeetings(middle) <= n) {
                    high = middle;
                } else {
                    low = middle + 1;
                }
            }
            return low;
        }

        private int leastNext(int come, int rest, int hold, int fewest) {
            for (int clause = 0; clause < gorge.clauses; clause++) {
                if ((rest >> clause & 1) == 1
                        && fewestFrom(said(come, lengthOf(clause), hold), rest & ~(1 << clause), hold) <= fewest) {
                    return clause;
                }
            }
            return NONE;
        }

        /** The fewest meetings in all, if a row has come so far and a set of clauses is to follow. */
        private int fewestFrom(int come, int set, int hold) {
            reached[0] = come;
            for (int part = 1; part <= set && part < MOST_SETS; part++) {
                if ((part & ~set) == 0) {
                    reached[part] = leastReached(part, hold);
                }
            }
            return set >= 0 && set < MOST_SETS ? reached[set] / MEETING : NONE;
        }

        private int leastReached(int part, int hold) {
            int best = BEYOND_ALL;
            for (int clause = 0; clause < gorge.clauses; clause++) {
                if ((part >> clause & 1) == 1) {
                    best = Math.min(best, said(reached[part & ~(1 << clause)], gorge.lengthOf(clause), hold));
                }
            }
            return best;
        }

        /** A row begins with a meeting that is used up, so that its first clause begins another. */
        private static int said(int come, int length, int hold) {
            if (come % MEETING + length <= hold) {
                return come + length;
            }
            return (come / MEETING + 1) * MEETING + length;
        }

        private int lengthOf(long clause) {
            return clause >= 0 && clause < MOST_CLAUSES ? gorge.lengthOf((int) clause) : 0;
        }

        private int longestClause() {
            int longest = 0;
            for (int clause = 0; clause < gorge.clauses; clause++) {
                longest = Math.max(longest, gorge.lengthOf(clause));
            }
            return longest;
        }
    }

    /** All sets of clauses, by how long they take and what they are worth; sets are gone through from the least on. */
    private static final class Bargain {
        int bundlesFound;
        int firstBundle = NONE;
        private int sets;
        private final int[] lengths = new int[MOST_SETS];
        private final int[] worths0 = new int[MOST_SETS];
        private final int[] worths1 = new int[MOST_SETS];
        private final Gorge gorge;

        Bargain(Gorge gorge) {
            this.gorge = gorge;
        }

        int largestSaid(int hold) {
            weighSets();
            int best = 0;
            for (int set = 0; set < sets; set++) {
                if (lengths[set] <= hold && Integer.bitCount(set) > Integer.bitCount(best)) {
                    best = set;
                }
            }
            return best;
        }

        int richestSaid(int hold) {
            weighSets();
            int best = 0;
            for (int set = 0; set < sets; set++) {
                if (lengths[set] <= hold && worthOfBoth(set) > worthOfBoth(best)) {
                    best = set;
                }
            }
            return best;
        }

        int worthOfBoth(int set) {
            return gorge.worthOf(set, 0) + gorge.worthOf(set, 1);
        }

        int signedSets() {
            weighSets();
            int found = 0;
            for (int set = 0; set < sets; set++) {
                if (isSigned(set)) {
                    found++;
                }
            }
            return found;
        }

        int bestDeal() {
            weighSets();
            int best = 0;
            for (int set = 0; set < sets; set++) {
                if (isSigned(set) && worths0[set] * worths1[set] > worths0[best] * worths1[best]) {
                    best = set;
                }
            }
            return best;
        }

        int greatestLesser() {
            weighSets();
            int greatest = 0;
            for (int set = 0; set < sets; set++) {
                greatest = Math.max(greatest, Math.min(worths0[set], worths1[set]));
            }
            return greatest;
        }

        int leftOut(int side) {
            int all = gorge.allClauses();
            int best = all;
            for (int set = 0; set < all; set++) {
                if (Integer.bitCount(set) < Integer.bitCount(best) && gorge.worthOf(all & ~set, side) >= 0) {
                    best = set;
                }
            }
            return best;
        }

        void findBundles() {
            weighSets();
            bundlesFound = 0;
            firstBundle = NONE;
            for (int clause = 0; clause < gorge.clauses; clause++) {
                for (int other = clause + 1; other < gorge.clauses; other++) {
                    if (isSigned(1 << clause | 1 << other) && !isSigned(1 << clause) && !isSigned(1 << other)) {
                        bundlesFound++;
                        firstBundle = firstBundle == NONE ? 10 * clause + other : firstBundle;
                    }
                }
            }
        }

        int firmSets() {
            weighSets();
            int found = 0;
            for (int set = 0; set < sets; set++) {
                if (isFirm(set)) {
                    found++;
                }
            }
            return found;
        }

        private boolean isFirm(int set) {
            for (int other = 0; other < sets; other++) {
                boolean noneLoses = worths0[other] >= worths0[set] && worths1[other] >= worths1[set];
                if (noneLoses && (worths0[other] > worths0[set] || worths1[other] > worths1[set])) {
                    return false;
                }
            }
            return true;
        }

        private boolean isSigned(int set) {
            return set >= 0 && set < MOST_SETS && worths0[set] >= 0 && worths1[set] >= 0;
        }

        private void weighSets() {
            sets = Math.min(MOST_SETS, gorge.allClauses() + 1);
            for (int clause = 0; clause < gorge.clauses; clause++) {
                int bit = 1 << clause;
                for (int set = bit; set < 2 * bit && set < MOST_SETS; set++) {
                    lengths[set] = lengths[set - bit] + gorge.lengthOf(clause);
                    worths0[set] = worths0[set - bit] + gorge.giftOf(clause, 0);
                    worths1[set] = worths1[set - bit] + gorge.giftOf(clause, 1);
                }
            }
        }
    }

    /** Who was tired, and by how much: all guesses that agree with what a row tells. */
    private static final class Weary {
        private static final int GUESSES = MOST_MEN * MOST_GRIP;
        private static final int HOLDS = 40;

        int fitting;
        private final boolean[] fitted = new boolean[GUESSES];
        private final int[] sharing = new int[HOLDS];
        private final Gorge gorge;
        private final Slots slots;

        Weary(Gorge gorge, Slots slots) {
            this.gorge = gorge;
            this.slots = slots;
        }

        boolean isTold(int slot) {
            if (slots.sizeOf(slot) % 3 != 0) {
                return false;
            }
            for (int i = 0; i < slots.sizeOf(slot); i += 3) {
                long held = slots.numberAt(slot, i + 2);
                if (!isManOf(slots.numberAt(slot, i), 0) || !isManOf(slots.numberAt(slot, i + 1), 1)
                        || held < 0 || held > 99) {
                    return false;
                }
            }
            return true;
        }

        void gather(int slot) {
            fitting = 0;
            for (int guess = 0; guess < GUESSES; guess++) {
                fitted[guess] = agrees(slot, guess / MOST_GRIP, guess % MOST_GRIP);
                if (fitted[guess]) {
                    fitting++;
                }
            }
        }

        int leastLoss(int man) {
            if (!gorge.hasMan(man)) {
                return NONE;
            }
            for (int loss = 1; loss < MOST_GRIP; loss++) {
                if (fitted[man * MOST_GRIP + loss]) {
                    return loss;
                }
            }
            return NONE;
        }

        int bestQuestion() {
            int best = NONE;
            int fewest = fitting;
            for (int man = 0; man < gorge.men; man++) {
                for (int other = 0; other < gorge.men; other++) {
                    if (gorge.sideOf(man) == 0 && gorge.sideOf(other) == 1) {
                        int worst = mostLeft(man, other);
                        if (worst < fewest) {
                            best = 10 * man + other;
                            fewest = worst;
                        }
                    }
                }
            }
            return best;
        }

        /** How many guesses are left at worst, if the hold of two men is known. */
        private int mostLeft(int man, int other) {
            Arrays.fill(sharing, 0);
            int most = 0;
            for (int guess = 0; guess < GUESSES; guess++) {
                if (fitted[guess]) {
                    int held = wearyHold(man, other, guess / MOST_GRIP, guess % MOST_GRIP);
                    if (held >= 0 && held < HOLDS) {
                        sharing[held]++;
                        most = Math.max(most, sharing[held]);
                    }
                }
            }
            return most;
        }

        private boolean isManOf(long number, int side) {
            return number >= 0 && number < MOST_MEN && gorge.sideOf((int) number) == side;
        }

        private boolean agrees(int slot, int weak, int loss) {
            if (!isWithin(loss, 1, gorge.gripOf(weak) - 1)) {
                return false;
            }
            for (int i = 0; i < slots.sizeOf(slot); i += 3) {
                int man = (int) slots.numberAt(slot, i);
                int other = (int) slots.numberAt(slot, i + 1);
                if (wearyHold(man, other, weak, loss) != slots.numberAt(slot, i + 2)) {
                    return false;
                }
            }
            return true;
        }

        private int wearyHold(int man, int other, int weak, int loss) {
            int gripOfMan = gorge.gripOf(man) - (man == weak ? loss : 0);
            int gripOfOther = gorge.gripOf(other) - (other == weak ? loss : 0);
            return gorge.holdByGrips(man, other, gripOfMan, gripOfOther);
        }
    }
}
