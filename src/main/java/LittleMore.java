import java.util.Arrays;
import java.util.NoSuchElementException;

/** A room where sizes are felt; what each call promises stands in shared/DOC.md under its number. */
public final class LittleMore {
    public static final int NONE = -1;

    // Some calls can answer -1 or -2 in earnest, so these stand for a refusal, or for none, there.
    private static final int FAR_NONE = -1000;
    private static final long NO_GAIN = -9223372036854775808L;
    private static final int NEVER = -2;

    private static final int TROUBLE_SUCH = 1;
    private static final int TROUBLE_NUMBER = 2;
    private static final int TROUBLE_ROOM = 3;
    private static final int TROUBLE_FAULT = 4;
    private static final int TROUBLE_NONE = 6;

    private static final int TAPE_BYTES = 700;
    private static final int TOP = 400;
    private static final int HIGHEST = 9999;
    private static final int FARTHEST = 50;
    private static final int FIT_LINE = 10;
    private static final int FIT_SECOND = 5;
    private static final int MOST_COUNTED = 40;
    private static final int MOST_ODDS = 10000;
    private static final int MOST_CLIMB = 50;
    private static final int MOST_STAIR = 9;
    private static final int SEEDS = 65537;
    private static final int IMAGED = 4096;

    private static final int PAIR = 0;
    private static final int ALONE = 1;
    private static final int ODD = 2;
    private static final int NUMBER = 3;
    private static final int MATCH = 4;
    private static final int KNOWN = 5;

    private static final int MANY_SENSES = 6;
    private static final int MANY_SAYERS = 6;
    private static final int MANY_PLANS = 4;
    private static final int MANY_PAYS = 4;
    private static final int MANY_STEPS = 4;
    private static final int MANY_WHOLES = 6;
    private static final int MANY_LIKED = 6;
    private static final int MANY_TRIALS = 1000;
    private static final int PLAN_TRIALS = 200;

    // The widest noise, and the widest difference of two.
    private static final int WIDE = 5;
    private static final int WIDE_PAIR = 10;

    private final byte[] tape = new byte[TAPE_BYTES];
    private final Reader reader = new Reader();
    private final Book bookOfTrials = new Book();
    private final Spans spans = new Spans();
    private final int[] left = new int[PLAN_TRIALS];
    private final long[] ways = new long[TOP + 1];
    private final long[] waysNext = new long[TOP + 1];
    private final boolean[] alike = new boolean[(2 * WIDE_PAIR + 3) * (2 * WIDE_PAIR + 3)];
    // The reader has a second hall: a text is read into that one, so a fault leaves this one as it is.
    private Hall hall = new Hall();
    private final Asked asked = new Asked();
    private int taped;
    private int seedNow;
    private int troubleNow;
    private int faultNow;
    private int faultPlace;

    public LittleMore() {
    }

    // ---- the room

    public int feed(int a, int b, int c, int d, int e) {
        if (taped + 20 > TAPE_BYTES) {
            return NONE;
        }
        putBytes(a);
        putBytes(b);
        putBytes(c);
        putBytes(d);
        putBytes(e);
        return taped;
    }

    private void putBytes(int four) {
        for (int shift = 24; shift >= 0 && taped < tape.length; shift -= 8) {
            tape[taped] = (byte) (four >> shift);
            taped++;
        }
    }

    public int room(int n) {
        if (!passes(n < 0 || n > taped ? TROUBLE_NUMBER : 0)) {
            return NONE;
        }
        taped = 0;
        boolean good = reader.reads(tape, n);
        faultNow = reader.fault;
        faultPlace = reader.place;
        if (!passes(good ? 0 : TROUBLE_FAULT)) {
            return NONE;
        }
        Hall old = hall;
        hall = reader.hall;
        reader.hall = old;
        hall.settle();
        bookOfTrials.empty();
        seedNow = 0;
        return hall.senseCount;
    }

    public int fault() {
        return faultNow;
    }

    public int where() {
        return troubleNow == TROUBLE_FAULT ? faultPlace : NONE;
    }

    public int level(int sense, int size) {
        if (!isSense(sense) || size < 0 || size > TOP) {
            return NONE;
        }
        return hall.senses[sense].levelAt(size);
    }

    public int noise(int sense, int v) {
        if (!isSense(sense)) {
            return NONE;
        }
        return hall.senses[sense].fresh().oftenAt(v);
    }

    public int sayer(int p, int what) {
        if (!isSayer(p)) {
            return FAR_NONE;
        }
        Sayer s = hall.sayers[p];
        switch (what) {
            case 0: return s.sense;
            case 1: return s.line;
            case 2: return s.second;
            case 3: return s.tired();
            case 4: return leftOut(s);
            case 5: return s.inAll;
            case 6: return s.sinceRest;
            case 7: return noiseOf(s).all;
            case 8: return s.guess ? 1 : 0;
            case 9: return s.likedCount;
            default: return FAR_NONE;
        }
    }

    public boolean rest(int p) {
        if (!passes(isSayer(p) ? 0 : TROUBLE_SUCH)) {
            return false;
        }
        hall.sayers[p].sinceRest = 0;
        return true;
    }

    // ---- odds

    public int odds(int p, int kind, int a, int b, int c, int answer, boolean whole) {
        if (!asks(p, kind, a, b, c)) {
            return NONE;
        }
        Noise noise = noiseOf(asked.sayer);
        return whole ? asked.wholeOdds(noise) : asked.oddsOf(noise, answer);
    }

    // ---- trials

    public boolean seed(int v) {
        if (!passes(v < 0 || v >= SEEDS ? TROUBLE_NUMBER : 0)) {
            return false;
        }
        seedNow = v;
        return true;
    }

    public int trial(int p, int kind, int a, int b, int c) {
        if (!asks(p, kind, a, b, c) || !passes(whyNoRoom(1))) {
            return NONE;
        }
        return sayDrawn();
    }

    public int tell(int p, int kind, int a, int b, int c, int answer) {
        if (!asks(p, kind, a, b, c) || !passes(asked.canBe(answer) ? whyNoRoom(1) : TROUBLE_NUMBER)) {
            return NONE;
        }
        write(answer);
        return bookOfTrials.used;
    }

    public int run(int plan, int p) {
        if (!passes(isPlan(plan) && isSayer(p) ? 0 : TROUBLE_SUCH)) {
            return NONE;
        }
        Plan way = hall.plans[plan];
        int trials = Math.min(way.trials(), left.length);
        if (!passes(whyNoRoom(trials))) {
            return NONE;
        }
        way.layOut(left);
        int ones = 0;
        for (int i = 0; i < trials; i++) {
            if (way.how == Plan.MIXED) {
                bringToFront(i, i + drawn(trials - i));
            }
            ones += sayAlone(p, left[i]);
        }
        return ones;
    }

    /** Those that are passed keep their order, because the next draw counts them in it. */
    private void bringToFront(int front, int from) {
        if (front < 0 || from < front || from >= left.length) {
            return;
        }
        int size = left[from];
        for (int i = from; i > front; i--) {
            left[i] = left[i - 1];
        }
        left[front] = size;
    }

    public int climb(int p, int start, int step, int n) {
        if (!passes(isSayer(p) ? 0 : TROUBLE_SUCH)
                || !passes(isSize(start) && isSize(step) && n >= 1 && n <= MOST_CLIMB ? 0 : TROUBLE_NUMBER)
                || !passes(whyNoRoom(n))) {
            return NONE;
        }
        int size = start;
        for (int i = 0; i < n; i++) {
            size = stepped(size, sayAlone(p, size), step);
        }
        return size;
    }

    public int book(int i, int what) {
        return bookOfTrials.rowAt(i, what);
    }

    public int count(int p, int kind, int a, int b, int c, int answer) {
        if (!asks(p, kind, a, b, c)) {
            return NONE;
        }
        return bookOfTrials.timesOf(asked, answer);
    }

    private int drawn(int many) {
        seedNow = (75 * seedNow + 74) % SEEDS;
        return many < 1 ? 0 : seedNow % many;
    }

    private int feelingDrawn(Noise noise, int place) {
        return place < asked.feelings() ? asked.levelOf(place) + noise.countedOff(drawn(noise.all)) : 0;
    }

    private int sayDrawn() {
        Noise noise = noiseOf(asked.sayer);
        int first = feelingDrawn(noise, 0);
        int second = feelingDrawn(noise, 1);
        int third = feelingDrawn(noise, 2);
        int answer = asked.said(first, second, third);
        write(answer);
        return answer;
    }

    private int sayAlone(int p, int size) {
        asked.put(p, ALONE, size, 0, 0);
        askOf(hall.sayers[p]);
        return sayDrawn();
    }

    private void write(int answer) {
        bookOfTrials.put(asked, answer);
        asked.sayer.inAll++;
        asked.sayer.sinceRest++;
    }

    private static int stepped(int size, int answer, int step) {
        return answer == 1 ? Math.max(1, size - step) : Math.min(TOP, size + step);
    }

    // ---- what answers let

    public int span(int n, int x, int y, boolean most) {
        if (!passes(n < 1 || n > MOST_COUNTED || y < 1 || y > MOST_ODDS || x < 0 || x > y ? TROUBLE_NUMBER : 0)) {
            return NONE;
        }
        return most ? spans.greatest(n, x, y) : spans.least(n, x, y);
    }

    public int lets(int p, int sense, int line, int second) {
        if (!passes(isSayer(p) && isSense(sense) ? 0 : TROUBLE_SUCH)
                || !passes(isFar(line) && isFar(second) ? whyNotJudged(p) : TROUBLE_NUMBER)) {
            return NONE;
        }
        Cells cells = bookOfTrials.cells;
        Sense law = hall.senses[sense];
        return cells.lineLets(p, law, line, spans)
                && cells.secondLets(p, law, second, hall.sayers[p].guess, spans) ? 1 : 0;
    }

    public int fits(int p) {
        if (!passes(isSayer(p) ? whyNotJudged(p) : TROUBLE_SUCH)) {
            return NONE;
        }
        return allFits(p);
    }

    public int fitAt(int p, int i, int what) {
        if (!passes(isSayer(p) && what >= 0 && what <= 2 ? whyNotJudged(p) : TROUBLE_SUCH)
                || !passes(i >= 0 && i < allFits(p) ? 0 : TROUBLE_SUCH)) {
            return FAR_NONE;
        }
        Cells cells = bookOfTrials.cells;
        int behind = i;
        int sense = 0;
        for (int all = hall.senseCount; sense < all && behind >= cells.fitsOf(sense); sense++) {
            behind -= cells.fitsOf(sense);
        }
        return what == 0 ? sense : what == 1 ? cells.fitLine(sense, behind) : cells.fitSecond(sense, behind);
    }

    public int verdict(int p, int sense) {
        if (!passes(isSayer(p) && isSense(sense) ? whyNotJudged(p) : TROUBLE_SUCH)) {
            return NONE;
        }
        int all = allFits(p);
        int own = bookOfTrials.cells.fitsOf(sense);
        return own == 0 ? 0 : own == all ? 2 : 1;
    }

    public int lineOf(int p, int sense, boolean most) {
        if (!passes(isSayer(p) && isSense(sense) ? whyNotJudged(p) : TROUBLE_SUCH)) {
            return FAR_NONE;
        }
        for (int i = -FARTHEST; i <= FARTHEST; i++) {
            int line = most ? -i : i;
            if (bookOfTrials.cells.lineLets(p, hall.senses[sense], line, spans)) {
                return line;
            }
        }
        troubleNow = TROUBLE_NONE;
        return FAR_NONE;
    }

    public int secondOf(int p, int sense, boolean most) {
        if (!passes(isSayer(p) && isSense(sense) ? whyNotJudged(p) : TROUBLE_SUCH)) {
            return FAR_NONE;
        }
        boolean guess = hall.sayers[p].guess;
        for (int i = -FARTHEST; i <= FARTHEST; i++) {
            int second = most ? -i : i;
            if (bookOfTrials.cells.secondLets(p, hall.senses[sense], second, guess, spans)) {
                return second;
            }
        }
        troubleNow = TROUBLE_NONE;
        return FAR_NONE;
    }

    /** Judges a sayer anew: what each sense has of fits can be asked of the cells from then on. */
    private int allFits(int p) {
        int sum = 0;
        for (int sense = 0; sense < hall.senseCount; sense++) {
            bookOfTrials.cells.judge(p, sense, hall, spans);
            sum += bookOfTrials.cells.fitsOf(sense);
        }
        return sum;
    }

    // ---- how much more

    public int more(int p, int size, int percent) {
        if (!passes(isSayer(p) ? 0 : TROUBLE_SUCH)
                || !passes(isSize(size) && isPercent(percent) ? 0 : TROUBLE_NUMBER)) {
            return NONE;
        }
        return needed(hall.sayers[p], size, percent);
    }

    public int fails(int p, int percent, int from, int to, int share) {
        boolean good = isPercent(percent) && isSize(from) && isSize(to) && from <= to && isSize(share);
        if (!passes(isSayer(p) ? 0 : TROUBLE_SUCH) || !passes(good ? 0 : TROUBLE_NUMBER)) {
            return NONE;
        }
        for (int size = from; size <= to; size++) {
            int due = share < 1 ? 1 : Math.max(1, size / share);
            int d = needed(hall.sayers[p], size, percent);
            if (d == NEVER || Math.abs(d - due) > 1) {
                return size;
            }
        }
        return NEVER;
    }

    public int steps(int p, int percent, int from, int to) {
        if (!passes(isSayer(p) ? 0 : TROUBLE_SUCH)
                || !passes(isPercent(percent) && isSize(from) && isSize(to) ? 0 : TROUBLE_NUMBER)) {
            return NONE;
        }
        int size = from;
        for (int taken = 0; taken < TOP; taken++) {
            int d = needed(hall.sayers[p], size, percent);
            if (d == NEVER || size + d > to) {
                return taken;
            }
            size += d;
        }
        return TOP;
    }

    public int felt(int p, int percent) {
        if (!passes(isSayer(p) ? 0 : TROUBLE_SUCH) || !passes(isPercent(percent) ? 0 : TROUBLE_NUMBER)) {
            return NONE;
        }
        Sayer s = hall.sayers[p];
        Noise noise = senseOf(s).fresh();
        int atNothing = freshOnes(s, 0, s.line);
        for (int size = 1; size <= TOP; size++) {
            if (100 * (freshOnes(s, size, s.line) - atNothing) >= percent * noise.all) {
                return size;
            }
        }
        return NEVER;
    }

    private int needed(Sayer s, int size, int percent) {
        Sense sense = senseOf(s);
        Noise noise = sense.fresh();
        int base = sense.levelAt(size) - s.second;
        for (int d = 1; size + d <= TOP; d++) {
            int ones = noise.pairOdds(sense.levelAt(size + d) - base, s.guess, 1);
            if (100 * ones >= percent * noise.pairs()) {
                return d;
            }
        }
        return NEVER;
    }

    private int freshOnes(Sayer s, int size, int line) {
        Sense sense = senseOf(s);
        return sense.fresh().above(line - sense.levelAt(size));
    }

    // ---- pay

    public long gain(int pay, int p, int size, int line) {
        if (!passes(isPay(pay) && isSayer(p) ? 0 : TROUBLE_SUCH)
                || !passes(isSize(size) && isFar(line) ? 0 : TROUBLE_NUMBER)) {
            return NO_GAIN;
        }
        return gained(hall.pays[pay], hall.sayers[p], size, line);
    }

    public int best(int pay, int p, int size) {
        if (!passes(isPay(pay) && isSayer(p) ? 0 : TROUBLE_SUCH) || !passes(isSize(size) ? 0 : TROUBLE_NUMBER)) {
            return FAR_NONE;
        }
        return bestLine(hall.pays[pay], hall.sayers[p], size);
    }

    public int moves(int pay, int p, int size) {
        if (!passes(isPay(pay) && isSayer(p) ? 0 : TROUBLE_SUCH) || !passes(isSize(size) ? 0 : TROUBLE_NUMBER)) {
            return FAR_NONE;
        }
        Sayer s = hall.sayers[p];
        int old = s.line;
        s.line = bestLine(hall.pays[pay], s, size);
        return s.line - old;
    }

    private long gained(Pay pay, Sayer s, int size, int line) {
        int all = senseOf(s).fresh().all;
        long ones = freshOnes(s, size, line);
        long onesAtNothing = freshOnes(s, 0, line);
        long there = ones * pay.hit + (all - ones) * pay.miss;
        long notThere = onesAtNothing * pay.falseSaid + (all - onesAtNothing) * pay.right;
        return pay.there * there + (100 - pay.there) * notThere;
    }

    private int bestLine(Pay pay, Sayer s, int size) {
        int line = -FARTHEST;
        long most = gained(pay, s, size, line);
        for (int other = -FARTHEST + 1; other <= FARTHEST; other++) {
            long here = gained(pay, s, size, other);
            if (here > most) {
                most = here;
                line = other;
            }
        }
        return line;
    }

    // ---- laws side by side

    public int parted(int one, int other, int kind, int from, int to) {
        boolean such = isSense(one) && isSense(other) && (kind == PAIR || kind == ALONE || kind == NUMBER);
        int least = kind == ALONE ? 0 : 1;
        if (!passes(such ? 0 : TROUBLE_SUCH) || !passes(from < least || to > TOP || from > to ? TROUBLE_NUMBER : 0)) {
            return NONE;
        }
        Sense first = hall.senses[one];
        Sense second = hall.senses[other];
        if (kind == PAIR) {
            return pairParted(first, second, from, to);
        }
        for (int a = from; a <= to; a++) {
            if (kind == ALONE ? aloneParts(first, second, a) : numberParts(first, second, a)) {
                return 1000 * a;
            }
        }
        return NEVER;
    }

    public int fewest(int one, int other, int a, int b) {
        if (!passes(isSense(one) && isSense(other) ? 0 : TROUBLE_SUCH)
                || !passes(isSize(a) && isSize(b) ? 0 : TROUBLE_NUMBER)) {
            return NONE;
        }
        int x = pairOnes(hall.senses[one], a, b);
        int y = hall.senses[one].fresh().pairs();
        int otherX = pairOnes(hall.senses[other], a, b);
        int otherY = hall.senses[other].fresh().pairs();
        for (int n = 1; n <= MOST_COUNTED; n++) {
            if (spans.greatest(n, x, y) < spans.least(n, otherX, otherY)
                    || spans.greatest(n, otherX, otherY) < spans.least(n, x, y)) {
                return n;
            }
        }
        return NEVER;
    }

    public int match(int sense, int size, int other) {
        if (!passes(isSense(sense) && isSense(other) ? 0 : TROUBLE_SUCH)
                || !passes(isSize(size) ? 0 : TROUBLE_NUMBER)) {
            return NONE;
        }
        return matched(sense, size, other);
    }

    public int closes(int one, int other, int third, int size) {
        if (!passes(isSense(one) && isSense(other) && isSense(third) ? 0 : TROUBLE_SUCH)
                || !passes(isSize(size) ? 0 : TROUBLE_NUMBER)) {
            return FAR_NONE;
        }
        int away = matched(one, size, other);
        int further = matched(other, away, third);
        return matched(third, further, one) - size;
    }

    public long stair(int p, int start, int step, int n, int end) {
        boolean good = isSize(start) && isSize(end) && isSize(step) && n >= 1 && n <= MOST_STAIR;
        if (!passes(isSayer(p) ? 0 : TROUBLE_SUCH) || !passes(good ? 0 : TROUBLE_NUMBER)) {
            return NONE;
        }
        Arrays.fill(ways, 0);
        ways[start] = 1;
        for (int i = 0; i < n; i++) {
            spreadWays(hall.sayers[p], step);
        }
        return ways[end];
    }

    private void spreadWays(Sayer s, int step) {
        int all = senseOf(s).fresh().all;
        Arrays.fill(waysNext, 0);
        for (int size = 1; size <= TOP; size++) {
            if (ways[size] != 0) {
                long ones = freshOnes(s, size, s.line);
                waysNext[stepped(size, 1, step)] += ways[size] * ones;
                waysNext[stepped(size, 0, step)] += ways[size] * (all - ones);
            }
        }
        System.arraycopy(waysNext, 0, ways, 0, ways.length);
    }

    private int matched(int sense, int size, int other) {
        return hall.senses[other].nearest(hall.senses[sense].levelAt(size));
    }

    private static int pairOnes(Sense sense, int a, int b) {
        return sense.fresh().pairOdds(sense.levelAt(b) - sense.levelAt(a), false, 1);
    }

    private static boolean aloneParts(Sense one, Sense other, int a) {
        Noise noise = one.fresh();
        Noise otherNoise = other.fresh();
        int here = noise.aloneOdds(one.levelAt(a), 1);
        int there = otherNoise.aloneOdds(other.levelAt(a), 1);
        return here * otherNoise.all != there * noise.all;
    }

    /** If all that one can say is like, the other's odds are spent too, and it can say nothing else. */
    private static boolean numberParts(Sense one, Sense other, int a) {
        Noise noise = one.fresh();
        Noise otherNoise = other.fresh();
        for (int v = -WIDE; v <= WIDE; v++) {
            int said = Math.max(0, one.levelAt(a) + v);
            int here = noise.numberOdds(one.levelAt(a), said);
            int there = otherNoise.numberOdds(other.levelAt(a), said);
            if (here * otherNoise.all != there * noise.all) {
                return true;
            }
        }
        return false;
    }

    private int pairParted(Sense one, Sense other, int from, int to) {
        compareLeads(one.fresh(), other.fresh());
        for (int a = from; a <= to; a++) {
            for (int b = from; b <= to; b++) {
                int lead = one.levelAt(b) - one.levelAt(a);
                int otherLead = other.levelAt(b) - other.levelAt(a);
                if (!alike[leadPlace(lead, otherLead)]) {
                    return 1000 * a + b;
                }
            }
        }
        return NEVER;
    }

    /** Odds of a pair hang on the lead alone, and no further than noise goes: a small table spares the long walk. */
    private void compareLeads(Noise one, Noise other) {
        for (int lead = -WIDE_PAIR - 1; lead <= WIDE_PAIR + 1; lead++) {
            for (int otherLead = -WIDE_PAIR - 1; otherLead <= WIDE_PAIR + 1; otherLead++) {
                boolean like = true;
                for (int answer = 0; answer <= 1; answer++) {
                    long here = (long) one.pairOdds(lead, false, answer) * other.pairs();
                    long there = (long) other.pairOdds(otherLead, false, answer) * one.pairs();
                    like = like && here == there;
                }
                alike[leadPlace(lead, otherLead)] = like;
            }
        }
    }

    private static int leadPlace(int lead, int otherLead) {
        int widest = WIDE_PAIR + 1;
        int row = Math.max(-widest, Math.min(widest, lead)) + widest;
        int column = Math.max(-widest, Math.min(widest, otherLead)) + widest;
        return row * (2 * widest + 1) + column;
    }

    // ---- going on

    public long image(int p) {
        if (!passes(isSayer(p) ? 0 : TROUBLE_SUCH)
                || !passes(hall.sayers[p].inAll >= IMAGED ? TROUBLE_ROOM : 0)) {
            return NONE;
        }
        Sayer s = hall.sayers[p];
        return seedNow + (long) SEEDS * (s.sinceRest + (long) IMAGED * s.inAll);
    }

    public boolean restore(int p, long image) {
        long trials = image / SEEDS;
        long inAll = trials / IMAGED;
        long sinceRest = trials % IMAGED;
        if (!passes(isSayer(p) ? 0 : TROUBLE_SUCH)
                || !passes(image < 0 || sinceRest > inAll || inAll >= IMAGED ? TROUBLE_NUMBER : 0)) {
            return false;
        }
        seedNow = (int) (image % SEEDS);
        hall.sayers[p].inAll = (int) inAll;
        hall.sayers[p].sinceRest = (int) sinceRest;
        return true;
    }

    public int clear() {
        int had = bookOfTrials.used;
        bookOfTrials.empty();
        return had;
    }

    public int led(int p, int i) throws NoSuchElementException {
        int row = isSayer(p) ? bookOfTrials.rowOf(p, i) : NONE;
        if (row < 0) {
            throw new NoSuchElementException("no such answer");
        }
        return bookOfTrials.rowAt(row, Book.ANSWER);
    }

    public int size(int what) {
        switch (what) {
            case 0: return hall.senseCount;
            case 1: return hall.sayerCount;
            case 2: return hall.planCount;
            case 3: return hall.payCount;
            case 4: return bookOfTrials.used;
            case 5: return seedNow;
            case 6: return taped;
            default: return NONE;
        }
    }

    public int trouble() {
        return troubleNow;
    }

    // ---- what calls have in common

    private boolean passes(int number) {
        troubleNow = number;
        return number == 0;
    }

    private boolean isSense(int i) {
        return i >= 0 && i < hall.senseCount;
    }

    private boolean isSayer(int i) {
        return i >= 0 && i < hall.sayerCount;
    }

    private boolean isPlan(int i) {
        return i >= 0 && i < hall.planCount;
    }

    private boolean isPay(int i) {
        return i >= 0 && i < hall.payCount;
    }

    private static boolean isSize(int i) {
        return i >= 1 && i <= TOP;
    }

    private static boolean isPercent(int i) {
        return i >= 1 && i <= 100;
    }

    private static boolean isFar(int i) {
        return i >= -FARTHEST && i <= FARTHEST;
    }

    private int whyNoRoom(int trials) {
        return bookOfTrials.holds(trials) ? 0 : TROUBLE_ROOM;
    }

    private int whyNotJudged(int p) {
        return bookOfTrials.cells.isOverfull(p) ? TROUBLE_ROOM : 0;
    }

    private boolean asks(int p, int kind, int a, int b, int c) {
        boolean such = isSayer(p) && kind >= PAIR && kind <= KNOWN && (kind != MATCH || isSense(b));
        if (!passes(such ? 0 : TROUBLE_SUCH)) {
            return false;
        }
        asked.put(p, kind, a, b, c);
        askOf(hall.sayers[p]);
        return passes(asked.isInBounds() ? 0 : TROUBLE_NUMBER);
    }

    private void askOf(Sayer s) {
        asked.sayer = s;
        asked.sense = senseOf(s);
        asked.other = isSense(asked.b) ? hall.senses[asked.b] : asked.sense;
    }

    private Sense senseOf(Sayer s) {
        return isSense(s.sense) ? hall.senses[s.sense] : hall.senses[0];
    }

    private int leftOut(Sayer s) {
        return s.learned(senseOf(s).wholeCount - 1);
    }

    private Noise noiseOf(Sayer s) {
        return senseOf(s).noiseWithout(leftOut(s));
    }

    /** How often each noise is there; sums are kept beside it so that odds need no loop. */
    private static final class Noise {
        private final int[] often = new int[2 * WIDE + 1];
        // Of place i: how many noises are above i - WIDE - 1; of pairs: how many differences above i - WIDE_PAIR - 1.
        private final int[] over = new int[2 * WIDE + 2];
        private final int[] overPairs = new int[2 * WIDE_PAIR + 2];
        int all;

        void fill(int[] wholes, int kept) {
            Arrays.fill(often, 0);
            for (int v = 0; v < kept && v < wholes.length && v <= WIDE; v++) {
                often[WIDE + v] = wholes[v];
                often[WIDE - v] = wholes[v];
            }
            Arrays.fill(over, 0);
            Arrays.fill(overPairs, 0);
            for (int i = 0; i < often.length; i++) {
                over[i] = often[i];
                for (int j = 0; j < often.length; j++) {
                    overPairs[j - i + WIDE_PAIR] += often[i] * often[j];
                }
            }
            sumFromBehind(over);
            sumFromBehind(overPairs);
            all = over[0];
        }

        private static void sumFromBehind(int[] row) {
            for (int i = row.length - 2; i >= 0; i--) {
                row[i] += row[i + 1];
            }
        }

        int oftenAt(int v) {
            return v < -WIDE || v > WIDE ? 0 : often[v + WIDE];
        }

        int above(int v) {
            return over[Math.max(0, Math.min(over.length - 1, v + WIDE + 1))];
        }

        private int pairsAbove(int v) {
            return overPairs[Math.max(0, Math.min(overPairs.length - 1, v + WIDE_PAIR + 1))];
        }

        int pairs() {
            return all * all;
        }

        /** Lead: by how much the second feeling is ahead of the first but for noise. */
        int pairOdds(int lead, boolean guess, int answer) {
            int atLeastLike = pairsAbove(-lead - 1);
            int ones = guess ? atLeastLike : pairsAbove(-lead);
            switch (answer) {
                case 0: return pairs() - atLeastLike;
                case 1: return ones;
                case 2: return atLeastLike - ones;
                default: return 0;
            }
        }

        int aloneOdds(int lead, int answer) {
            return answer == 1 ? above(-lead) : all - above(-lead);
        }

        int numberOdds(int level, int answer) {
            return answer > 0 ? oftenAt(answer - level) : all - above(-level);
        }

        int countedOff(int r) {
            int rest = r;
            for (int i = 0; i < often.length; i++) {
                if (rest < often[i]) {
                    return i - WIDE;
                }
                rest -= often[i];
            }
            return 0;
        }
    }

    /** A law from sizes to levels, and noise. */
    private static final class Sense {
        static final int SHARE = 0;
        static final int POWER = 1;
        static final int LINE = 2;
        static final int FLOOR = 3;

        private final int[] stepKind = new int[MANY_STEPS];
        private final int[] stepFirst = new int[MANY_STEPS];
        private final int[] stepSecond = new int[MANY_STEPS];
        private final int[] wholes = new int[MANY_WHOLES];
        private final int[] levels = new int[TOP + 1];
        private final Noise[] noises = new Noise[MANY_WHOLES];
        int stepCount;
        int wholeCount;

        Sense() {
            for (int i = 0; i < noises.length; i++) {
                noises[i] = new Noise();
            }
        }

        void empty() {
            stepCount = 0;
            wholeCount = 0;
        }

        void addStep(int kind, int first, int second) {
            if (stepCount < MANY_STEPS) {
                stepKind[stepCount] = kind;
                stepFirst[stepCount] = first;
                stepSecond[stepCount] = second;
                stepCount++;
            }
        }

        void addWhole(int whole) {
            if (wholeCount < MANY_WHOLES) {
                wholes[wholeCount] = whole;
                wholeCount++;
            }
        }

        void settle() {
            for (int size = 0; size <= TOP; size++) {
                levels[size] = size;
            }
            for (int i = 0; i < stepCount && i < MANY_STEPS; i++) {
                take(stepKind[i], stepFirst[i], stepSecond[i]);
            }
            for (int i = 0; i < wholeCount && i < MANY_WHOLES; i++) {
                noises[i].fill(wholes, i + 1);
            }
        }

        private void take(int kind, int first, int second) {
            if (kind == SHARE) {
                passMarks(first);
                return;
            }
            for (int size = 0; size <= TOP; size++) {
                int here = levels[size];
                levels[size] = kind == POWER ? root(raised(here, first), second)
                        : kind == LINE ? Math.min(HIGHEST, first * here / Math.max(1, second))
                        : Math.max(0, here - first);
            }
        }

        /** No step turns a greater one into a lesser, so one walk along the marks serves all sizes. */
        private void passMarks(int share) {
            int mark = 1;
            int passed = 0;
            for (int size = 0; size <= TOP; size++) {
                for (int i = 0; i <= HIGHEST && mark <= levels[size]; i++) {
                    mark += Math.max(1, mark / Math.max(1, share));
                    passed++;
                }
                levels[size] = passed;
            }
        }

        private static long raised(long base, int times) {
            long product = 1;
            for (int i = 0; i < times; i++) {
                product *= base;
            }
            return product;
        }

        private static int root(long of, int times) {
            int low = 0;
            int high = HIGHEST;
            for (int i = 0; i < 32 && low < high; i++) {
                int middle = (low + high + 1) / 2;
                if (raised(middle, times) <= of) {
                    low = middle;
                } else {
                    high = middle - 1;
                }
            }
            return low;
        }

        int levelAt(int size) {
            return size < 0 || size > TOP ? 0 : levels[size];
        }

        int nearest(int feeling) {
            int found = 1;
            for (int size = 2; size <= TOP; size++) {
                if (Math.abs(levels[size] - feeling) < Math.abs(levels[found] - feeling)) {
                    found = size;
                }
            }
            return found;
        }

        Noise noiseWithout(int leftOut) {
            return noises[Math.max(0, Math.min(noises.length - 1, wholeCount - 1 - leftOut))];
        }

        Noise fresh() {
            return noiseWithout(0);
        }
    }

    /** One who says what is felt, with habits and with what the trials so far have done. */
    private static final class Sayer {
        final int[] liked = new int[MANY_LIKED];
        int sense;
        int line;
        int second;
        int tires;
        int learns;
        boolean guess;
        int likedCount;
        int inAll;
        int sinceRest;

        void empty() {
            sense = 0;
            line = 0;
            second = 0;
            tires = 0;
            learns = 0;
            guess = false;
            likedCount = 0;
            inAll = 0;
            sinceRest = 0;
        }

        int tired() {
            return tires < 1 ? 0 : sinceRest / tires;
        }

        int learned(int most) {
            return learns < 1 ? 0 : Math.min(most, inAll / learns);
        }

        boolean likes(long number) {
            for (int i = 0; i < likedCount && i < MANY_LIKED; i++) {
                if (liked[i] == number) {
                    return true;
                }
            }
            return false;
        }

        void addLiked(int number) {
            if (likedCount < MANY_LIKED) {
                liked[likedCount] = number;
                likedCount++;
            }
        }

        int inLikedNumbers(int number) {
            int found = likedCount < 1 ? number : liked[0];
            for (int i = 1; i < likedCount && i < MANY_LIKED; i++) {
                int off = Math.abs(liked[i] - number);
                int offFound = Math.abs(found - number);
                if (off < offFound || off == offFound && liked[i] < found) {
                    found = liked[i];
                }
            }
            return found;
        }
    }

    /** Which sizes are tried, how often and in which order. */
    private static final class Plan {
        static final int UP = 0;
        static final int DOWN = 1;
        static final int MIXED = 2;

        int how;
        int from;
        int to;
        int by;
        int times;

        int sizes() {
            return (to - from) / Math.max(1, by) + 1;
        }

        int trials() {
            return sizes() * times;
        }

        void layOut(int[] row) {
            for (int i = 0; i < trials() && i < row.length; i++) {
                int place = i / Math.max(1, times);
                row[i] = from + by * (how == DOWN ? sizes() - 1 - place : place);
            }
        }
    }

    /** What each answer brings, and how often something is there, in hundredths. */
    private static final class Pay {
        int hit;
        int miss;
        int falseSaid;
        int right;
        int there;
    }

    /** All that a text tells. */
    private static final class Hall {
        static final int NO_SENSE = -1;
        static final int UNTOLD = -2;

        final Sense[] senses = new Sense[MANY_SENSES];
        final Sayer[] sayers = new Sayer[MANY_SAYERS];
        final Plan[] plans = new Plan[MANY_PLANS];
        final Pay[] pays = new Pay[MANY_PAYS];
        private final long[] names = new long[MANY_SENSES + MANY_SAYERS + MANY_PLANS + MANY_PAYS];
        private final int[] sensesNamed = new int[MANY_SENSES + MANY_SAYERS + MANY_PLANS + MANY_PAYS];
        int senseCount;
        int sayerCount;
        int planCount;
        int payCount;
        private int nameCount;

        Hall() {
            for (int i = 0; i < MANY_SENSES; i++) {
                senses[i] = new Sense();
            }
            for (int i = 0; i < MANY_SAYERS; i++) {
                sayers[i] = new Sayer();
            }
            for (int i = 0; i < MANY_PLANS; i++) {
                plans[i] = new Plan();
            }
            for (int i = 0; i < MANY_PAYS; i++) {
                pays[i] = new Pay();
            }
        }

        void empty() {
            senseCount = 0;
            sayerCount = 0;
            planCount = 0;
            payCount = 0;
            nameCount = 0;
        }

        void settle() {
            for (int i = 0; i < senseCount && i < MANY_SENSES; i++) {
                senses[i].settle();
            }
        }

        void addName(long name, int sense) {
            if (nameCount < names.length) {
                names[nameCount] = name;
                sensesNamed[nameCount] = sense;
                nameCount++;
            }
        }

        /** The sense that bears a name, NO_SENSE if something else does, UNTOLD if nothing does. */
        int namedBy(long name) {
            for (int i = 0; i < nameCount && i < names.length; i++) {
                if (names[i] == name) {
                    return sensesNamed[i];
                }
            }
            return UNTOLD;
        }
    }

    /** Reads a text into a hall and stops at the first fault from the left. */
    private static final class Reader {
        private static final int FORM = 1;
        private static final int NOT_TOLD = 2;
        private static final int TOLD_AGAIN = 3;
        private static final int BOUNDS = 4;
        private static final int MANY = 5;
        private static final int LACKS = 6;

        private static final int END = 0;
        private static final int WORD = 1;
        private static final int WHOLE = 2;
        private static final int MARK = 3;
        private static final int STRANGE = 4;

        // The tokens, END behind them; a value is a word's code, a whole, or a mark's sign.
        private final int[] sorts = new int[TAPE_BYTES + 1];
        private final int[] starts = new int[TAPE_BYTES + 1];
        private final long[] values = new long[TAPE_BYTES + 1];
        private int tokens;
        private int at;
        private int taken;
        Hall hall = new Hall();
        int fault;
        int place;

        boolean reads(byte[] text, int n) {
            hall.empty();
            fault = 0;
            place = 0;
            scan(text, Math.max(0, Math.min(n, text.length)));
            boolean another = true;
            for (int i = 0; i < tokens && another; i++) {
                boolean good = isWord("sense") ? readSense() : isWord("sayer") ? readSayer()
                        : isWord("plan") ? readPlan() : isWord("pay") ? readPay() : wrong(FORM);
                if (!good) {
                    return false;
                }
                another = isMark(';');
                if (another) {
                    step();
                }
            }
            if (sorts[at] != END) {
                return wrong(FORM);
            }
            return hall.senseCount > 0 || wrong(LACKS);
        }

        private boolean wrong(int number) {
            fault = number;
            place = starts[at];
            return false;
        }

        // Tokens.

        private void scan(byte[] text, int n) {
            tokens = 0;
            at = 0;
            int next = 0;
            for (int i = 0; i < n && next < n && next < text.length; i++) {
                next = text[next] == ' ' ? next + 1 : scanToken(text, next, n);
            }
            addToken(END, n, 0);
        }

        /** Answers the place behind the token. */
        private int scanToken(byte[] text, int from, int n) {
            int sign = text[from];
            if (isLetter(sign)) {
                return scanWord(text, from, n);
            }
            if (isDigit(sign)) {
                return scanWhole(text, from, n);
            }
            addToken(sign == ';' || sign == ',' || sign == '/' ? MARK : STRANGE, from, sign);
            return from + 1;
        }

        private int scanWord(byte[] text, int from, int n) {
            long code = 0;
            int next = from;
            for (; next < n && next < text.length && isLetter(text[next]); next++) {
                code = code * 32 + text[next] - 'a' + 1;
            }
            addToken(next - from > 8 ? STRANGE : WORD, from, code);
            return next;
        }

        private int scanWhole(byte[] text, int from, int n) {
            long value = 0;
            int next = from;
            for (; next < n && next < text.length && isDigit(text[next]); next++) {
                value = value * 10 + text[next] - '0';
            }
            addToken(next - from > 3 ? STRANGE : WHOLE, from, value);
            return next;
        }

        private void addToken(int sort, int start, long value) {
            if (tokens < sorts.length) {
                sorts[tokens] = sort;
                starts[tokens] = start;
                values[tokens] = value;
                tokens++;
            }
        }

        private static boolean isLetter(int sign) {
            return sign >= 'a' && sign <= 'z';
        }

        private static boolean isDigit(int sign) {
            return sign >= '0' && sign <= '9';
        }

        private void step() {
            if (at + 1 < tokens) {
                at++;
            }
        }

        private static long codeOf(String letters) {
            long code = 0;
            for (int i = 0; i < letters.length(); i++) {
                code = code * 32 + letters.charAt(i) - 'a' + 1;
            }
            return code;
        }

        private boolean isWord(String letters) {
            return sorts[at] == WORD && values[at] == codeOf(letters);
        }

        private boolean isMark(char sign) {
            return sorts[at] == MARK && values[at] == sign;
        }

        private boolean isName() {
            return sorts[at] == WORD && !isWord("sense") && !isWord("sayer") && !isWord("plan") && !isWord("pay")
                    && !isWord("then") && !isWord("noise") && !isWord("line") && !isWord("less")
                    && !isWord("to") && !isWord("by") && !isWord("likes") && !isWord("guess");
        }

        private boolean takeWord(String letters) {
            if (!isWord(letters)) {
                return wrong(FORM);
            }
            step();
            return true;
        }

        private boolean takeMark(char sign) {
            if (!isMark(sign)) {
                return wrong(FORM);
            }
            step();
            return true;
        }

        private boolean takeWhole(int least, int most) {
            if (sorts[at] != WHOLE) {
                return wrong(FORM);
            }
            if (values[at] < least || values[at] > most) {
                return wrong(BOUNDS);
            }
            taken = (int) values[at];
            step();
            return true;
        }

        private boolean takeSigned(int most) {
            boolean less = isWord("less");
            if (less) {
                step();
            }
            if (!takeWhole(0, most)) {
                return false;
            }
            taken = less ? -taken : taken;
            return true;
        }

        private boolean takeNewName(int sense) {
            if (!isName()) {
                return wrong(FORM);
            }
            if (hall.namedBy(values[at]) != Hall.UNTOLD) {
                return wrong(TOLD_AGAIN);
            }
            hall.addName(values[at], sense);
            step();
            return true;
        }

        private boolean takeSenseName() {
            if (!isName()) {
                return wrong(FORM);
            }
            int sense = hall.namedBy(values[at]);
            if (sense < 0) {
                return wrong(NOT_TOLD);
            }
            taken = sense;
            step();
            return true;
        }

        // Lines.

        private boolean readSense() {
            if (hall.senseCount >= MANY_SENSES) {
                return wrong(MANY);
            }
            step();
            Sense sense = hall.senses[hall.senseCount];
            sense.empty();
            if (!takeNewName(hall.senseCount)) {
                return false;
            }
            hall.senseCount++;
            return readSteps(sense) && takeWord("noise") && readNoise(sense);
        }

        private boolean readSteps(Sense sense) {
            boolean good = readStep(sense);
            for (int i = 0; i < tokens && good && isWord("then"); i++) {
                step();
                good = readStep(sense);
            }
            return good;
        }

        private boolean readStep(Sense sense) {
            if (isWord("share")) {
                return readStepOf(sense, Sense.SHARE, 2, 99);
            }
            if (isWord("power")) {
                return readStepOf(sense, Sense.POWER, 1, 3);
            }
            if (isWord("line")) {
                return readStepOf(sense, Sense.LINE, 1, 99);
            }
            if (isWord("floor")) {
                return readStepOf(sense, Sense.FLOOR, 0, 399);
            }
            return wrong(FORM);
        }

        private boolean readStepOf(Sense sense, int kind, int least, int most) {
            if (sense.stepCount >= MANY_STEPS) {
                return wrong(MANY);
            }
            step();
            if (!takeWhole(least, most)) {
                return false;
            }
            int first = taken;
            int second = 1;
            if (kind == Sense.POWER || kind == Sense.LINE) {
                if (!takeMark('/') || !takeWhole(least, most)) {
                    return false;
                }
                second = taken;
            }
            sense.addStep(kind, first, second);
            return true;
        }

        private boolean readNoise(Sense sense) {
            if (!takeWhole(1, 9)) {
                return false;
            }
            sense.addWhole(taken);
            for (int i = 0; i < tokens && sorts[at] == WHOLE; i++) {
                if (values[at] <= 9 && sense.wholeCount >= MANY_WHOLES) {
                    return wrong(MANY);
                }
                if (!takeWhole(0, 9)) {
                    return false;
                }
                sense.addWhole(taken);
            }
            return true;
        }

        private boolean readSayer() {
            if (hall.sayerCount >= MANY_SAYERS) {
                return wrong(MANY);
            }
            step();
            Sayer sayer = hall.sayers[hall.sayerCount];
            sayer.empty();
            hall.sayerCount++;
            if (!takeNewName(Hall.NO_SENSE) || !takeWord("of") || !takeSenseName()) {
                return false;
            }
            sayer.sense = taken;
            return readLines(sayer) && readYears(sayer) && readLikes(sayer);
        }

        private boolean readLines(Sayer sayer) {
            if (isWord("line")) {
                step();
                if (!takeSigned(FARTHEST)) {
                    return false;
                }
                sayer.line = taken;
            }
            if (isWord("second")) {
                step();
                if (!takeSigned(FARTHEST)) {
                    return false;
                }
                sayer.second = taken;
            }
            return true;
        }

        private boolean readYears(Sayer sayer) {
            if (isWord("tires")) {
                step();
                if (!takeWhole(1, 99)) {
                    return false;
                }
                sayer.tires = taken;
            }
            if (isWord("learns")) {
                step();
                if (!takeWhole(1, 99)) {
                    return false;
                }
                sayer.learns = taken;
            }
            return true;
        }

        private boolean readLikes(Sayer sayer) {
            if (isWord("guess")) {
                step();
                sayer.guess = true;
            }
            if (!isWord("likes")) {
                return true;
            }
            step();
            boolean good = readLiked(sayer);
            for (int i = 0; i < tokens && good && isMark(','); i++) {
                step();
                good = readLiked(sayer);
            }
            return good;
        }

        private boolean readLiked(Sayer sayer) {
            boolean whole = sorts[at] == WHOLE;
            if (whole && sayer.likes(values[at])) {
                return wrong(TOLD_AGAIN);
            }
            if (whole && sayer.likedCount >= MANY_LIKED) {
                return wrong(MANY);
            }
            if (!takeWhole(0, 999)) {
                return false;
            }
            sayer.addLiked(taken);
            return true;
        }

        private boolean readPlan() {
            if (hall.planCount >= MANY_PLANS) {
                return wrong(MANY);
            }
            step();
            Plan plan = hall.plans[hall.planCount];
            hall.planCount++;
            if (!takeNewName(Hall.NO_SENSE)) {
                return false;
            }
            plan.how = isWord("up") ? Plan.UP : isWord("down") ? Plan.DOWN : isWord("mixed") ? Plan.MIXED : NONE;
            if (plan.how == NONE) {
                return wrong(FORM);
            }
            step();
            return readSizes(plan);
        }

        private boolean readSizes(Plan plan) {
            if (!takeWhole(1, TOP)) {
                return false;
            }
            plan.from = taken;
            if (!takeWord("to") || !takeWhole(plan.from, TOP)) {
                return false;
            }
            plan.to = taken;
            if (!takeWord("by") || !takeWhole(1, TOP)) {
                return false;
            }
            plan.by = taken;
            int most = Math.min(20, PLAN_TRIALS / Math.max(1, plan.sizes()));
            if (!takeWord("times") || !takeWhole(1, most)) {
                return false;
            }
            plan.times = taken;
            return true;
        }

        private boolean readPay() {
            if (hall.payCount >= MANY_PAYS) {
                return wrong(MANY);
            }
            step();
            Pay pay = hall.pays[hall.payCount];
            hall.payCount++;
            if (!takeNewName(Hall.NO_SENSE) || !takeAmount("hit")) {
                return false;
            }
            pay.hit = taken;
            if (!takeAmount("miss")) {
                return false;
            }
            pay.miss = taken;
            if (!takeAmount("false")) {
                return false;
            }
            pay.falseSaid = taken;
            if (!takeAmount("right")) {
                return false;
            }
            pay.right = taken;
            if (!takeWord("there") || !takeWhole(0, 100)) {
                return false;
            }
            pay.there = taken;
            return true;
        }

        private boolean takeAmount(String before) {
            return takeWord(before) && takeSigned(99);
        }
    }

    /** The trial that is asked about now; what its kind doesn't name is 0. */
    private static final class Asked {
        Sayer sayer = new Sayer();
        Sense sense = new Sense();
        Sense other = sense;
        int p;
        int kind;
        int a;
        int b;
        int c;

        void put(int p, int kind, int a, int b, int c) {
            this.p = p;
            this.kind = kind;
            this.a = a;
            this.b = kind == ALONE || kind == NUMBER ? 0 : b;
            this.c = kind == ODD || kind == KNOWN ? c : 0;
        }

        boolean isInBounds() {
            boolean sized = kind == ALONE ? a >= 0 && a <= TOP : isSize(a);
            boolean paired = kind != PAIR && kind != ODD && kind != KNOWN || isSize(b);
            int most = kind == ODD ? 2 : kind == KNOWN ? 1 : 0;
            return sized && paired && c >= 0 && c <= most;
        }

        boolean canBe(int answer) {
            boolean unbounded = kind == NUMBER || kind == MATCH;
            int most = kind == PAIR || kind == ODD ? 2 : 1;
            return answer >= 0 && (unbounded || answer <= most);
        }

        int feelings() {
            return kind == ODD ? 3 : kind == PAIR || kind == KNOWN ? 2 : 1;
        }

        int levelOf(int place) {
            boolean ofB = kind == ODD ? place == c : place == 1;
            return sense.levelAt(ofB ? b : a);
        }

        int said(int first, int second, int third) {
            switch (kind) {
                case PAIR: return pairSaid(second + sayer.second + sayer.tired() - first);
                case ALONE: return first > sayer.line + sayer.tired() ? 1 : 0;
                case ODD: return oddPlace(first, second, third);
                case NUMBER: return sayer.inLikedNumbers(Math.max(0, first));
                case MATCH: return other.nearest(first);
                default: return knownSaid(second + sayer.second + sayer.tired() - first);
            }
        }

        private int pairSaid(int lead) {
            if (lead == 0) {
                return sayer.guess ? 1 : 2;
            }
            return lead > 0 ? 1 : 0;
        }

        private int knownSaid(int lead) {
            int against = c == 1 ? -lead : lead;
            return against > 2 ? 1 - c : c;
        }

        private static int oddPlace(int first, int second, int third) {
            int sum = first + second + third;
            int off = Math.abs(3 * first - sum);
            int offSecond = Math.abs(3 * second - sum);
            int offThird = Math.abs(3 * third - sum);
            int place = offSecond > off ? 1 : 0;
            return offThird > Math.max(off, offSecond) ? 2 : place;
        }

        int wholeOdds(Noise noise) {
            int product = 1;
            for (int i = 0; i < feelings(); i++) {
                product *= noise.all;
            }
            return product;
        }

        /** A feeling that isn't there has one noise, 0, so that three loops serve every kind. */
        private int oftenAt(Noise noise, int place, int v) {
            if (place < feelings()) {
                return noise.oftenAt(v);
            }
            return v == 0 ? 1 : 0;
        }

        int oddsOf(Noise noise, int answer) {
            int sum = 0;
            for (int v = -WIDE; v <= WIDE; v++) {
                int first = oftenAt(noise, 0, v);
                for (int w = -WIDE; first > 0 && w <= WIDE; w++) {
                    int both = first * oftenAt(noise, 1, w);
                    if (both > 0) {
                        sum += both * lastOdds(noise, answer, levelOf(0) + v, levelOf(1) + w);
                    }
                }
            }
            return sum;
        }

        private int lastOdds(Noise noise, int answer, int first, int second) {
            int sum = 0;
            for (int v = -WIDE; v <= WIDE; v++) {
                int often = oftenAt(noise, 2, v);
                if (often > 0 && said(first, second, levelOf(2) + v) == answer) {
                    sum += often;
                }
            }
            return sum;
        }
    }

    /** The trials with their answers, in order. */
    private static final class Book {
        static final int SAYER = 0;
        static final int ANSWER = 5;
        private static final int WIDTH = 6;

        private final int[] rows = new int[MANY_TRIALS * WIDTH];
        final Cells cells = new Cells();
        int used;

        boolean holds(int trials) {
            return used + trials <= MANY_TRIALS;
        }

        void empty() {
            used = 0;
            cells.empty();
        }

        void put(Asked asked, int answer) {
            if (!holds(1)) {
                return;
            }
            int at = used * WIDTH;
            rows[at] = asked.p;
            rows[at + 1] = asked.kind;
            rows[at + 2] = asked.a;
            rows[at + 3] = asked.b;
            rows[at + 4] = asked.c;
            rows[at + ANSWER] = answer;
            used++;
            if (asked.kind == PAIR || asked.kind == ALONE) {
                cells.put(asked, answer);
            }
        }

        int rowAt(int i, int what) {
            return i < 0 || i >= used || what < 0 || what >= WIDTH ? NONE : rows[i * WIDTH + what];
        }

        int timesOf(Asked asked, int answer) {
            int times = 0;
            for (int i = 0; i < used; i++) {
                if (isOf(asked, i * WIDTH) && (answer == NONE || rows[i * WIDTH + ANSWER] == answer)) {
                    times++;
                }
            }
            return times;
        }

        private boolean isOf(Asked asked, int at) {
            return at >= 0 && at + ANSWER < rows.length
                    && rows[at] == asked.p && rows[at + 1] == asked.kind && rows[at + 2] == asked.a
                    && rows[at + 3] == asked.b && rows[at + 4] == asked.c;
        }

        /** Where the i-th answer of a sayer stands, NONE if it has fewer. */
        int rowOf(int p, int i) {
            int passed = 0;
            for (int row = 0; row < used; row++) {
                if (rowAt(row, SAYER) == p) {
                    if (passed == i) {
                        return row;
                    }
                    passed++;
                }
            }
            return NONE;
        }
    }

    /** The cells of PAIR and ALONE, counted as the trials come, since judging walks them again and again. */
    private static final class Cells {
        private static final int SLOTS = 2048;
        private static final int ANSWERS = 3;
        private static final int LINES = 2 * FIT_LINE + 1;
        private static final int SECONDS = 2 * FIT_SECOND + 1;

        // A slot holds a cell's number and one more; 0 is free. There are more slots than there can be cells.
        private final int[] slots = new int[SLOTS];
        private final int[] sayers = new int[MANY_TRIALS];
        private final int[] kinds = new int[MANY_TRIALS];
        private final int[] firsts = new int[MANY_TRIALS];
        private final int[] seconds = new int[MANY_TRIALS];
        private final int[] trials = new int[MANY_TRIALS];
        private final int[] given = new int[MANY_TRIALS * ANSWERS];
        private int used;
        // Of each sense the lines and the seconds that let all, in order, and how many there are.
        private final int[] fitLines = new int[MANY_SENSES * LINES];
        private final int[] fitSeconds = new int[MANY_SENSES * SECONDS];
        private final int[] lineCounts = new int[MANY_SENSES];
        private final int[] secondCounts = new int[MANY_SENSES];

        void empty() {
            used = 0;
            Arrays.fill(slots, 0);
        }

        void put(Asked asked, int answer) {
            int slot = slotOf(asked);
            if (slot < 0 || answer < 0 || answer >= ANSWERS) {
                return;
            }
            if (slots[slot] == 0) {
                open(asked, slot);
            }
            int cell = slots[slot] - 1;
            if (cell >= 0) {
                trials[cell]++;
                given[cell * ANSWERS + answer]++;
            }
        }

        /** The slot of a trial's cell, or the free one where it belongs. */
        private int slotOf(Asked asked) {
            int key = ((asked.p * 2 + asked.kind) * (TOP + 1) + asked.a) * (TOP + 1) + asked.b;
            int slot = Math.floorMod(key * 31, SLOTS);
            for (int i = 0; i < SLOTS; i++) {
                if (slots[slot] == 0 || isOf(asked, slots[slot] - 1)) {
                    return slot;
                }
                slot = (slot + 1) % SLOTS;
            }
            return NONE;
        }

        private boolean isOf(Asked asked, int cell) {
            return cell >= 0 && cell < MANY_TRIALS && sayers[cell] == asked.p && kinds[cell] == asked.kind
                    && firsts[cell] == asked.a && seconds[cell] == asked.b;
        }

        private void open(Asked asked, int slot) {
            if (used >= MANY_TRIALS) {
                return;
            }
            int cell = used;
            used++;
            slots[slot] = used;
            sayers[cell] = asked.p;
            kinds[cell] = asked.kind;
            firsts[cell] = asked.a;
            seconds[cell] = asked.b;
            trials[cell] = 0;
            for (int answer = 0; answer < ANSWERS; answer++) {
                given[cell * ANSWERS + answer] = 0;
            }
        }

        boolean isOverfull(int p) {
            for (int i = 0; i < used; i++) {
                if (sayers[i] == p && trials[i] > MOST_COUNTED) {
                    return true;
                }
            }
            return false;
        }

        boolean lineLets(int p, Sense sense, int line, Spans spans) {
            Noise noise = sense.fresh();
            for (int i = 0; i < used; i++) {
                if (sayers[i] == p && kinds[i] == ALONE) {
                    int lead = sense.levelAt(firsts[i]) - line;
                    for (int answer = 0; answer <= 1; answer++) {
                        if (!spans.holds(trials[i], noise.aloneOdds(lead, answer), noise.all,
                                given[i * ANSWERS + answer])) {
                            return false;
                        }
                    }
                }
            }
            return true;
        }

        /** With guess a 2 can't be given: told by hand it is a trial of its cell, but isn't asked about. */
        boolean secondLets(int p, Sense sense, int second, boolean guess, Spans spans) {
            Noise noise = sense.fresh();
            int last = guess ? 1 : 2;
            for (int i = 0; i < used; i++) {
                if (sayers[i] == p && kinds[i] == PAIR) {
                    int lead = sense.levelAt(seconds[i]) + second - sense.levelAt(firsts[i]);
                    for (int answer = 0; answer <= last; answer++) {
                        if (!spans.holds(trials[i], noise.pairOdds(lead, guess, answer), noise.pairs(),
                                given[i * ANSWERS + answer])) {
                            return false;
                        }
                    }
                }
            }
            return true;
        }

        void judge(int p, int sense, Hall hall, Spans spans) {
            Sense law = hall.senses[sense];
            boolean guess = hall.sayers[p].guess;
            int lines = 0;
            for (int line = -FIT_LINE; line <= FIT_LINE; line++) {
                if (lineLets(p, law, line, spans)) {
                    fitLines[sense * LINES + lines] = line;
                    lines++;
                }
            }
            int many = 0;
            for (int second = -FIT_SECOND; second <= FIT_SECOND; second++) {
                if (lines > 0 && secondLets(p, law, second, guess, spans)) {
                    fitSeconds[sense * SECONDS + many] = second;
                    many++;
                }
            }
            lineCounts[sense] = lines;
            secondCounts[sense] = many;
        }

        /** A line weighs on ALONE alone and a second on PAIR alone, so the fits of a sense are a product. */
        int fitsOf(int sense) {
            return lineCounts[sense] * secondCounts[sense];
        }

        int fitLine(int sense, int i) {
            return i < 0 || i >= fitsOf(sense) ? 0 : fitLines[sense * LINES + i / secondCounts[sense]];
        }

        int fitSecond(int sense, int i) {
            return i < 0 || i >= fitsOf(sense) ? 0 : fitSeconds[sense * SECONDS + i % secondCounts[sense]];
        }
    }

    /** Spans, by whole numbers of many limbs, because a fortieth may be met to the very last one. */
    private static final class Spans {
        private static final int LIMB_BITS = 40;
        private static final long LIMB_MASK = (1L << LIMB_BITS) - 1;
        // 40 times y to the n, and once more times 400,000, has no more bits than these.
        private static final int BITS_EACH = 14;
        private static final int BITS_MORE = 25;
        private static final int LIMBS = (MOST_COUNTED * BITS_EACH + BITS_MORE) / LIMB_BITS + 1;
        private static final int KEPT_BITS = 11;

        private final long[] goal = new long[LIMBS];
        private final long[] term = new long[LIMBS];
        private final long[] sum = new long[LIMBS];
        private int limbs;
        // Judging asks for the same few again and again: what was found last is kept by its key.
        private final long[] keys = new long[1 << KEPT_BITS];
        private final int[] found = new int[1 << KEPT_BITS];

        boolean holds(int n, int x, int y, int k) {
            return k <= greatest(n, x, y) && n - k <= greatest(n, y - x, y);
        }

        /** The other answers' count is n less this one's: where theirs is greatest this one's is least. */
        int least(int n, int x, int y) {
            return n - greatest(n, y - x, y);
        }

        int greatest(int n, int x, int y) {
            if (x <= 0) {
                return 0;
            }
            if (x >= y) {
                return n;
            }
            long key = ((long) y * 16384 + x) * 64 + n;
            int slot = (int) ((key * 0x9E3779B97F4A7C15L) >>> (64 - KEPT_BITS));
            if (keys[slot] != key) {
                found[slot] = worked(n, x, y);
                keys[slot] = key;
            }
            return found[slot];
        }

        /** From n downwards the odds of k or more are summed, 40 times, until they reach y to the n. */
        private int worked(int n, int x, int y) {
            limbs = Math.max(1, Math.min(LIMBS, (n * BITS_EACH + BITS_MORE) / LIMB_BITS + 1));
            setTo(goal, 1);
            setTo(term, 40);
            for (int i = 0; i < n; i++) {
                multiply(goal, y);
                multiply(term, x);
            }
            setTo(sum, 0);
            add(sum, term);
            int k = n;
            for (int i = 0; i < n && isLess(sum, goal); i++) {
                multiply(term, (long) k * (y - x));
                divide(term, (long) (n - k + 1) * x);
                add(sum, term);
                k--;
            }
            return k;
        }

        private void setTo(long[] row, long value) {
            for (int i = 1; i < limbs; i++) {
                row[i] = 0;
            }
            row[0] = value;
        }

        private void multiply(long[] row, long by) {
            long carry = 0;
            for (int i = 0; i < limbs; i++) {
                carry += row[i] * by;
                row[i] = carry & LIMB_MASK;
                carry >>>= LIMB_BITS;
            }
        }

        private void divide(long[] row, long by) {
            if (by < 1) {
                return;
            }
            long rest = 0;
            for (int i = limbs - 1; i >= 0; i--) {
                rest = (rest << LIMB_BITS) + row[i];
                row[i] = rest / by;
                rest %= by;
            }
        }

        private void add(long[] row, long[] other) {
            long carry = 0;
            for (int i = 0; i < limbs; i++) {
                carry += row[i] + other[i];
                row[i] = carry & LIMB_MASK;
                carry >>>= LIMB_BITS;
            }
        }

        private boolean isLess(long[] row, long[] other) {
            for (int i = limbs - 1; i >= 0; i--) {
                if (row[i] != other[i]) {
                    return row[i] < other[i];
                }
            }
            return false;
        }
    }
}
