import java.util.ArrayList;
import java.util.List;
import java.util.function.ToLongFunction;

/** Terms III, SEED to CELL, and promises 11 to 17, sentence by sentence. */
public final class EdgesOfTrialsTest {
    private static final int MIN = Integer.MIN_VALUE;
    private static final int MAX = Integer.MAX_VALUE;

    /** p has no NOISE, q has -1, 0, 1 once each, r -5, 0, 5. */
    private static final String ROOM = "sense s line 1/1 noise 1;sense n line 1/1 noise 1 1;sense w line 1/1 noise 1 0 0 0 0 1;"
        + "sense g line 1/1 noise 2 0 3;sayer p of s;sayer q of n;sayer r of w;sayer t of g;plan u up 1 to 200 by 1 times 1;"
        + "plan f up 7 to 7 by 400 times 1;plan h down 1 to 50 by 1 times 1;plan x mixed 1 to 200 by 1 times 1";

    private static LittleMore hall() {
        return Texts.roomOf(ROOM);
    }

    /** A BOOK of so many TRIALS of p. */
    private static LittleMore filled(int trials) {
        LittleMore x = hall();
        for (int i = 0; i < trials / 200; i++) x.run(0, 0);
        for (int i = 0; i < trials % 200; i++) x.tell(0, 1, 9, 0, 0, 1);
        Told.due("the BOOK's TRIALS", x.size(4), trials);
        return x;
    }

    private static int next(int seed) {
        return (int) ((75L * seed + 74) % 65537);
    }

    private static void seeds() {
        Told.says("III", "SEED (0 .. 65,536) becomes (75 times SEED and 74) mod 65,537");
        int[][] after = {{0, 74}, {74, 5624}, {5624, 28652}, {28652, 51790}, {872, 65474}, {873, 12}, {874, 87}, {65534, 65386}, {65535, 65461}, {65536, 65536}};
        for (int[] one : after) {
            LittleMore x = hall();
            x.seed(one[0]);
            x.trial(0, 1, 1, 0, 0);
            Told.due("after " + one[0], x.size(5), one[1]);
        }
        int nought = 0;
        for (int seed = 0; seed <= 65536; seed++) if (next(seed) == 0) nought = seed;
        LittleMore z = hall();
        z.seed(nought);
        Told.due("to 0, which brings the least NOISE", z.trial(1, 3, 9, 0, 0), 8);
        Told.due("SEED", z.size(5), 0);

        Told.says("III", "that mod W is counted off from the least NOISE on");
        int[] counted = {-2, -2, -2, 0, 0, 2, 2, 2};
        for (int seed = 870; seed < 890; seed++) {
            LittleMore x = hall();
            x.seed(seed);
            Told.due("W 8, SEED " + seed, x.trial(3, 3, 9, 0, 0), 9 + counted[next(seed) % 8]);
            x.seed(seed);
            Told.due("W 3, SEED " + seed, x.trial(1, 3, 9, 0, 0), 8 + next(seed) % 3);
        }
        LittleMore x = Texts.roomOf("sense n line 1/1 noise 1 1;sayer p of n learns 1");
        x.seed(873);
        Told.due("W as it is now: 3", x.trial(0, 3, 9, 0, 0), 8);
        x.seed(873);
        Told.due("W as it is now: 1", x.trial(0, 3, 9, 0, 0), 9);

        Told.says("III", "FEELINGS in order (of ODD by places; of PAIR, KNOWN a's first)");
        for (int seed = 0; seed < 40; seed++) {
            int[] v = new int[3];
            int[] at = new int[4];
            at[0] = seed;
            for (int i = 0; i < 3; i++) {
                at[i + 1] = next(at[i]);
                v[i] = 5 * (at[i + 1] % 3 - 1);
            }
            x = hall();
            x.seed(seed);
            Told.due("PAIR by SEED " + seed, x.trial(2, 0, 100, 100, 0), v[1] > v[0] ? 1 : v[1] < v[0] ? 0 : 2);
            Told.due("SEED by two", x.size(5), at[2]);
            x.seed(seed);
            Told.due("KNOWN 0 by SEED " + seed, x.trial(2, 5, 100, 100, 0), v[1] > v[0] ? 1 : 0);
            x.seed(seed);
            Told.due("KNOWN 1 by SEED " + seed, x.trial(2, 5, 100, 100, 1), v[1] < v[0] ? 0 : 1);
            Told.due("SEED by two", x.size(5), at[2]);
            for (int c = 0; c <= 2; c++) {
                int[] f = v.clone();
                f[c] += 3;
                int best = 0;
                for (int i = 1; i < 3; i++) if (off(f, i) > off(f, best)) best = i;
                x.seed(seed);
                Told.due("ODD at " + c + " by SEED " + seed, x.trial(2, 2, 100, 103, c), best);
                Told.due("SEED by three", x.size(5), at[3]);
            }
            x.seed(seed);
            Told.due("ALONE by SEED " + seed, x.trial(2, 1, 0, 0, 0), v[0] > 0 ? 1 : 0);
            Told.due("SEED by one", x.size(5), at[1]);
            x.seed(seed);
            Told.due("NUMBER by SEED " + seed, x.trial(2, 3, 100, 0, 0), 100 + v[0]);
            x.seed(seed);
            Told.due("MATCH by SEED " + seed, x.trial(2, 4, 100, 1, 0), 100 + v[0]);
            Told.due("SEED by one", x.size(5), at[1]);
        }

        Told.says("11", "SEED becomes it: true; false: 2");
        x = hall();
        for (int v : new int[] {0, 1, 65535, 65536}) {
            Told.passes("seed(" + v + ")", x, y -> y.seed(v) ? 1 : 0, 1);
            Told.due("SEED", x.size(5), v);
        }
        for (int v : new int[] {-1, 65537, 65538, MIN, MAX}) Told.refusedBy("seed(" + v + ")", () -> filled(3), y -> y.seed(v), 2);
        Told.passes("seed without a ROOM", new LittleMore(), y -> y.seed(5) ? 1 : 0, 1);
    }

    private static int off(int[] f, int at) {
        return Math.abs(2 * f[at] - f[(at + 1) % 3] - f[(at + 2) % 3]);
    }

    private static void rows(LittleMore x, int i, int... row) {
        for (int what = 0; what <= 5; what++) Told.due("row " + i + ", " + what, x.book(i, what), row[what]);
    }

    private static void trials() {
        Told.says("12", "A TRIAL is drawn and comes into THE BOOK: the answer");
        LittleMore x = hall();
        Told.passes("trial", x, y -> y.trial(0, 0, 7, 8, 9), 1);
        Told.passes("trial", x, y -> y.trial(1, 3, 7, 8, 9), 7 + 5624 % 3 - 1);
        Told.due("TRIALS", x.size(4), 2);
        rows(x, 0, 0, 0, 7, 8, 0, 1);
        rows(x, 1, 1, 3, 7, 0, 0, 8);
        Told.due("its SAYER's TRIALS", x.sayer(0, 5), 1);
        Told.due("its SAYER's since", x.sayer(0, 6), 1);
        Told.due("another's TRIALS", x.sayer(2, 5), 0);

        Told.says("12", "as it is when it is asked: this TRIAL tires and teaches the next one alone");
        x = Texts.roomOf("sense n line 1/1 noise 1 1;sayer p of n line 8 tires 1 learns 1");
        x.seed(874);
        Told.due("the first: 9 with -1 isn't above 8", x.trial(0, 1, 9, 0, 0), 0);
        x.seed(873);
        Told.due("the second: without NOISE 10 is above 9", x.trial(0, 1, 10, 0, 0), 1);
        Told.due("the third: it isn't above 10", x.trial(0, 1, 10, 0, 0), 0);

        Told.says("12", "NONE: 3 (THE BOOK: up to 1,000 TRIALS)");
        x = filled(998);
        Told.passes("the 999th", x, y -> y.trial(0, 1, 9, 0, 0), 1);
        Told.passes("the 1,000th", x, y -> y.trial(0, 1, 9, 0, 0), 1);
        Told.due("TRIALS", x.size(4), 1000);
        rows(x, 999, 0, 1, 9, 0, 0, 1);
        for (int kind = 0; kind <= 5; kind++) {
            int k = kind;
            Told.refused("the 1,001st of kind " + kind, () -> filled(1000), y -> y.trial(1, k, 9, 1, 0), -1, 3);
        }

        Told.says("12", "NONE: 1; 2 ..; 3: the first of them that is so");
        Told.refused("no SAYER, no size, no room", () -> filled(1000), y -> y.trial(4, 1, 401, 0, 0), -1, 1);
        Told.refused("no size, no room", () -> filled(1000), y -> y.trial(0, 1, 401, 0, 0), -1, 2);
        Told.refused("no c, no room", () -> filled(1000), y -> y.trial(0, 5, 1, 1, 2), -1, 2);
    }

    private static void tells() {
        Told.says("13", "A TRIAL with an answer comes into THE BOOK by hand (it counts as TRIALS of the SAYER): how many there are");
        LittleMore x = hall();
        int[][] told = {{0, 0, 7, 8, 9, 2}, {1, 1, 0, 8, 9, 1}, {2, 2, 7, 8, 2, 0}, {3, 3, 7, 8, 9, 5}, {0, 4, 7, 3, 9, 6}, {1, 5, 7, 8, 1, 0}};
        for (int i = 0; i < 6; i++) {
            int[] t = told[i];
            Told.passes("tell " + i, x, y -> y.tell(t[0], t[1], t[2], t[3], t[4], t[5]), i + 1);
        }
        rows(x, 0, 0, 0, 7, 8, 0, 2);
        rows(x, 1, 1, 1, 0, 0, 0, 1);
        rows(x, 2, 2, 2, 7, 8, 2, 0);
        rows(x, 3, 3, 3, 7, 0, 0, 5);
        rows(x, 4, 0, 4, 7, 3, 0, 6);
        rows(x, 5, 1, 5, 7, 8, 1, 0);
        int[] counted = {2, 2, 1, 1};
        for (int p = 0; p < 4; p++) {
            Told.due("TRIALS of " + p, x.sayer(p, 5), counted[p]);
            Told.due("since of " + p, x.sayer(p, 6), counted[p]);
        }
        Told.due("nothing is drawn", x.size(5), 0);

        Told.says("13", "NONE: 2 (also an answer below 0, or, of kinds 0, 1, 2 and 5, that can't be one: above 2, 1, 2, 1)");
        int[] most = {2, 1, 2, MAX, MAX, 1};
        for (int kind = 0; kind <= 5; kind++) {
            int k = kind;
            for (int answer : new int[] {-1, -2, MIN}) {
                Told.refused("tell of " + kind + ", " + answer, () -> filled(3), y -> y.tell(1, k, 7, 1, 1, answer), -1, 2);
            }
            for (int answer = 0; answer <= Math.min(3, most[kind]); answer++) {
                int a = answer;
                Told.passes("tell of " + kind + ", " + answer, filled(3), y -> y.tell(1, k, 7, 1, 1, a), 4);
            }
            if (most[kind] < MAX) {
                for (int answer : new int[] {most[kind] + 1, most[kind] + 2, MAX}) {
                    Told.refused("tell of " + kind + ", " + answer, () -> filled(3), y -> y.tell(1, k, 7, 1, 1, answer), -1, 2);
                }
            } else {
                for (int answer : new int[] {0, 400, 401, 9999, MAX}) {
                    x = filled(3);
                    Told.passes("tell of " + kind + ", " + answer, x, y -> y.tell(1, k, 7, 1, 1, answer), 4);
                    Told.due("its answer", x.book(3, 5), answer);
                }
            }
        }
        x = Texts.roomOf("sense s line 1/1 noise 1;sayer p of s guess likes 5");
        Told.passes("a 2 of one who guesses can be told", x, y -> y.tell(0, 0, 7, 7, 0, 2), 1);
        Told.passes("a number that isn't liked can be told", x, y -> y.tell(0, 3, 7, 7, 0, 6), 2);

        Told.says("13", "NONE: 3 (THE BOOK: up to 1,000 TRIALS)");
        x = filled(998);
        Told.passes("the 999th", x, y -> y.tell(1, 1, 9, 0, 0, 0), 999);
        Told.passes("the 1,000th", x, y -> y.tell(1, 2, 9, 9, 0, 0), 1000);
        for (int kind = 0; kind <= 5; kind++) {
            int k = kind;
            Told.refused("the 1,001st of kind " + kind, () -> filled(1000), y -> y.tell(1, k, 9, 1, 0, 1), -1, 3);
        }

        Told.says("13", "NONE: 1; 2 ..; 3: the first of them that is so");
        Told.refused("no SAYER, no answer, no room", () -> filled(1000), y -> y.tell(4, 1, 1, 0, 0, 2), -1, 1);
        Told.refused("no kind, no answer, no room", () -> filled(1000), y -> y.tell(0, 6, 1, 0, 0, -1), -1, 1);
        Told.refused("no answer, no room", () -> filled(1000), y -> y.tell(0, 1, 1, 0, 0, 2), -1, 2);
        Told.refused("no size, no room", () -> filled(1000), y -> y.tell(0, 1, 401, 0, 0, 1), -1, 2);
    }

    private static void plan(String how, int... sizes) {
        LittleMore x = Texts.roomOf("sense s line 1/1 noise 1;sayer p of s line 7;plan u " + how);
        int ones = 0;
        for (int size : sizes) ones += size > 7 ? 1 : 0;
        int due = ones;
        Told.passes("run of " + how, x, y -> y.run(0, 0), due);
        Told.due("TRIALS of " + how, x.size(4), sizes.length);
        Told.due("TRIALS of its SAYER", x.sayer(0, 5), sizes.length);
        for (int i = 0; i < sizes.length; i++) rows(x, i, 0, 1, sizes[i], 0, 0, sizes[i] > 7 ? 1 : 0);
    }

    private static void runs() {
        Told.says("14", "A plan is run by a SAYER, as ALONE TRIALS: sizes up, or down, each so many times behind one another");
        plan("up 10 to 30 by 10 times 2", 10, 10, 20, 20, 30, 30);
        plan("down 10 to 30 by 10 times 2", 30, 30, 20, 20, 10, 10);
        plan("up 7 to 7 by 1 times 3", 7, 7, 7);
        plan("down 8 to 8 by 400 times 1", 8);
        plan("up 5 to 8 by 1 times 1", 5, 6, 7, 8);
        plan("down 5 to 8 by 1 times 1", 8, 7, 6, 5);
        plan("up 399 to 400 by 1 times 1", 399, 400);

        Told.says("I", "sizes from the first to the second, by ..: not beyond the second");
        plan("up 5 to 11 by 4 times 1", 5, 9);
        plan("down 5 to 11 by 4 times 1", 9, 5);
        plan("up 5 to 12 by 4 times 1", 5, 9);
        plan("up 5 to 13 by 4 times 1", 5, 9, 13);
        plan("up 1 to 400 by 399 times 1", 1, 400);
        plan("down 1 to 400 by 400 times 1", 1);
        plan("up 1 to 399 by 399 times 1", 1);

        Told.says("14", "mixed: of all that are left (in the order of up) the one that is drawn (as NOISE is, mod how many are left), ahead of its FEELING");
        for (int seed : new int[] {0, 1, 5, 873, 874, 65535, 65536}) {
            LittleMore x = Texts.roomOf("sense n line 1/1 noise 1 1;sayer p of n line 8;plan m mixed 6 to 10 by 2 times 3;plan o mixed 9 to 9 by 1 times 1");
            List<Integer> left = new ArrayList<>(List.of(6, 6, 6, 8, 8, 8, 10, 10, 10));
            x.seed(seed);
            int now = seed;
            int ones = 0;
            int[] sizes = new int[9];
            int[] said = new int[9];
            for (int i = 0; i < 9; i++) {
                now = next(now);
                sizes[i] = left.remove(now % left.size());
                now = next(now);
                said[i] = sizes[i] + now % 3 - 1 > 8 ? 1 : 0;
                ones += said[i];
            }
            Told.due("run by SEED " + seed, x.run(0, 0), ones);
            for (int i = 0; i < 9; i++) rows(x, i, 0, 1, sizes[i], 0, 0, said[i]);
            Told.due("SEED", x.size(5), now);
            x.run(1, 0);
            Told.due("of one that is left one is drawn too", x.size(5), next(next(now)));
        }
        LittleMore y = hall();
        y.run(3, 0);
        boolean[] been = new boolean[201];
        int unlike = 0;
        for (int i = 0; i < 200; i++) {
            if (!been[y.book(i, 2)]) unlike++;
            been[y.book(i, 2)] = true;
        }
        Told.due("each of 200 once", unlike, 200);
        y = hall();
        y.seed(7);
        y.run(2, 0);
        int fifty = 7;
        for (int i = 0; i < 50; i++) fifty = next(fifty);
        Told.due("of up and down the FEELINGS alone are drawn", y.size(5), fifty);

        Told.says("14", "how many said 1");
        y = Texts.roomOf("sense s line 1/1 noise 1;sayer p of s line 50;sayer q of s;sayer r of s line 9 tires 2;plan u up 10 to 12 by 1 times 2");
        Told.passes("none", y, z -> z.run(0, 0), 0);
        Told.passes("all", y, z -> z.run(0, 1), 6);
        // 10, 10 are above 9; 11, 11 above 10; 12, 12 above 11. From then on it is TIRED by 3, 4, 5.
        Told.passes("as it tires", y, z -> z.run(0, 2), 6);
        Told.passes("as it is TIRED", y, z -> z.run(0, 2), 0);
        y.rest(2);
        Told.passes("once it RESTED", y, z -> z.run(0, 2), 6);

        Told.says("14", "NONE: 1");
        for (int plan : new int[] {-1, 4, MIN, MAX}) Told.refused("run(" + plan + ")", () -> filled(3), z -> z.run(plan, 0), -1, 1);
        for (int p : new int[] {-1, 4, MIN, MAX}) Told.refused("run of " + p, () -> filled(3), z -> z.run(0, p), -1, 1);
        Told.refused("run of none, no room", () -> filled(1000), z -> z.run(0, 4), -1, 1);

        Told.says("14", "NONE: 3 (THE BOOK hasn't room for all)");
        Told.passes("200 behind 800", filled(800), z -> z.run(0, 0), 200);
        Told.refused("200 behind 801", () -> filled(801), z -> z.run(0, 0), -1, 3);
        Told.refused("200 mixed behind 801", () -> filled(801), z -> z.run(3, 1), -1, 3);
        Told.passes("50 behind 950", filled(950), z -> z.run(2, 0), 50);
        Told.refused("50 behind 951", () -> filled(951), z -> z.run(2, 1), -1, 3);
        Told.passes("1 behind 999", filled(999), z -> z.run(1, 0), 1);
        Told.refused("1 behind 1,000", () -> filled(1000), z -> z.run(1, 0), -1, 3);
    }

    private static void climbs() {
        Told.says("15", "A STAIR of n TRIALS is run as the SAYER is (not FRESH): the size at its end");
        LittleMore x = Texts.roomOf("sense s line 1/1 noise 1;sayer p of s line 9 tires 2;sayer q of s line 9");
        Told.passes("climb", x, y -> y.climb(1, 8, 3, 4), 8);
        int[] sizes = {8, 11, 8, 11};
        int[] said = {0, 1, 0, 1};
        for (int i = 0; i < 4; i++) rows(x, i, 1, 1, sizes[i], 0, 0, said[i]);
        Told.due("TRIALS of its SAYER", x.sayer(1, 5), 4);
        // 20, 19 are above 9, 18, 17 above 10, 16, 15 above 11, 14, 13 above 12, then 12 isn't above 13
        Told.passes("as it tires", x, y -> y.climb(0, 20, 1, 9), 13);
        LittleMore n = Texts.roomOf("sense n line 1/1 noise 1 1;sayer p of n line 9 learns 3");
        int seed = 0;
        int size = 9;
        for (int i = 0; i < 6; i++) {
            seed = next(seed);
            size += size + (i < 3 ? seed % 3 - 1 : 0) > 9 ? -2 : 2;
        }
        Told.due("as it learns", n.climb(0, 9, 2, 6), size);
        Told.due("SEED", n.size(5), seed);

        Told.says("IV", "A STAIR: from a size on: after 1 it goes down by a step, after 0 up, within 1 .. 400");
        int[][] stairs = {{10, 3, 1, 7}, {9, 3, 1, 12}, {10, 9, 1, 1}, {10, 10, 1, 1}, {10, 8, 1, 2}, {400, 399, 1, 1}, {400, 398, 1, 2}, {400, 400, 1, 1},
            {1, 399, 1, 400}, {1, 400, 1, 400}, {1, 398, 1, 399}, {9, 391, 1, 400}, {9, 392, 1, 400}, {9, 390, 1, 399}, {1, 400, 2, 1}, {400, 1, 50, 350}};
        for (int[] s : stairs) {
            LittleMore y = Texts.roomOf("sense s line 1/1 noise 1;sayer q of s line 9");
            Told.passes("climb from " + s[0] + " by " + s[1] + ", " + s[2], y, z -> z.climb(0, s[0], s[1], s[2]), s[3]);
        }

        Told.says("15", "NONE: 1");
        for (int p : new int[] {-1, 4, MIN, MAX}) Told.refused("climb of " + p, () -> filled(3), y -> y.climb(p, 1, 1, 1), -1, 1);

        Told.says("15", "NONE: 2 (start 1 .. 400, step 1 .. 400, n)");
        for (int v : new int[] {-1, 0, 401, MIN, MAX}) {
            Told.refused("climb from " + v, () -> filled(3), y -> y.climb(1, v, 1, 1), -1, 2);
            Told.refused("climb by " + v, () -> filled(3), y -> y.climb(1, 1, v, 1), -1, 2);
        }

        Told.says("15", "n (1 .. 50)");
        for (int v : new int[] {-1, 0, 51, MIN, MAX}) Told.refused("climb of " + v + " TRIALS", () -> filled(3), y -> y.climb(1, 1, 1, v), -1, 2);
        Told.passes("climb of 50", filled(3), y -> y.climb(0, 51, 1, 50), 1);

        Told.says("15", "NONE: 3");
        Told.passes("50 behind 950", filled(950), y -> y.climb(0, 51, 1, 50), 1);
        Told.refused("50 behind 951", () -> filled(951), y -> y.climb(1, 51, 1, 50), -1, 3);
        Told.passes("49 behind 951", filled(951), y -> y.climb(0, 50, 1, 49), 1);
        Told.refused("1 behind 1,000", () -> filled(1000), y -> y.climb(1, 1, 1, 1), -1, 3);

        Told.says("15", "NONE: 1; 2 ..; 3: the first of them that is so");
        Told.refused("no SAYER, no start, no room", () -> filled(1000), y -> y.climb(4, 0, 1, 1), -1, 1);
        Told.refused("no start, no room", () -> filled(1000), y -> y.climb(0, 0, 1, 1), -1, 2);
        Told.refused("no n, no room", () -> filled(1000), y -> y.climb(0, 1, 1, 51), -1, 2);
    }

    private static void books() {
        Told.says("16", "Of a TRIAL of THE BOOK what 0 the SAYER, 1 kind, 2 a, 3 b, 4 c (0 where not named), 5 the answer");
        int[][] told = {{0, 0, 7, 8, 9, 2}, {1, 1, 400, 8, 9, 1}, {2, 2, 7, 8, 2, 0}, {3, 3, 7, 8, 9, 5}, {0, 4, 7, 3, 9, 6}, {1, 5, 7, 8, 1, 0}};
        int[][] due = {{0, 0, 7, 8, 0, 2}, {1, 1, 400, 0, 0, 1}, {2, 2, 7, 8, 2, 0}, {3, 3, 7, 0, 0, 5}, {0, 4, 7, 3, 0, 6}, {1, 5, 7, 8, 1, 0}};
        LittleMore x = hall();
        for (int[] t : told) x.tell(t[0], t[1], t[2], t[3], t[4], t[5]);
        for (int i = 0; i < 6; i++) {
            for (int what = 0; what <= 5; what++) {
                int row = i;
                int asked = what;
                Told.unmarked("book(" + i + ", " + what + ")", x, y -> y.book(row, asked), due[i][what]);
            }
        }

        Told.says("16", "NONE for none such");
        for (int i : new int[] {-1, 6, 1000, MIN, MAX}) Told.unmarked("book(" + i + ")", x, y -> y.book(i, 0), -1);
        for (int what : new int[] {-1, 6, MIN, MAX}) Told.unmarked("book, " + what, x, y -> y.book(0, what), -1);
        Told.unmarked("book of none", hall(), y -> y.book(0, 0), -1);
        x = filled(1000);
        Told.unmarked("the last of a full one", x, y -> y.book(999, 2), 200);
        Told.unmarked("behind a full one", x, y -> y.book(1000, 2), -1);
        x.clear();
        Told.unmarked("of an empty one", x, y -> y.book(0, 2), -1);
    }

    private static void count(LittleMore x, String call, ToLongFunction<LittleMore> asked, int want) {
        Told.passes("count of " + call, x, asked, want);
    }

    private static void counts() {
        Told.says("III", "A CELL: TRIALS of one SAYER alike in all that is named");
        int[] named = {2, 1, 3, 1, 2, 3};
        for (int kind = 0; kind <= 5; kind++) {
            int k = kind;
            LittleMore x = hall();
            x.tell(0, kind, 2, 2, 0, 1);
            x.tell(0, kind, 2, 2, 0, 0);
            x.tell(1, kind, 2, 2, 0, 1);
            x.tell(0, kind, 3, 2, 0, 1);
            x.tell(0, kind, 2, 3, 0, 1);
            x.tell(0, kind, 2, 2, 1, 1);
            x.tell(0, (kind + 1) % 6, 2, 2, 0, 1);
            int all = 2 + (named[kind] < 2 ? 1 : 0) + (named[kind] < 3 ? 1 : 0);
            count(x, "all of kind " + kind, y -> y.count(0, k, 2, 2, 0, -1), all);
            count(x, "1 of kind " + kind, y -> y.count(0, k, 2, 2, 0, 1), all - 1);
            count(x, "0 of kind " + kind, y -> y.count(0, k, 2, 2, 0, 0), 1);
            count(x, "another SAYER's", y -> y.count(1, k, 2, 2, 0, -1), 1);
            count(x, "another a", y -> y.count(0, k, 3, 2, 0, -1), 1);
            count(x, "another b", y -> y.count(0, k, 2, 3, 0, -1), named[kind] < 2 ? all : 1);
            count(x, "another c", y -> y.count(0, k, 2, 2, 1, -1), named[kind] < 3 ? all : 1);
            count(x, "a and b turned round", y -> y.count(0, k, 3, 3, 0, -1), named[kind] < 2 ? 1 : 0);
        }

        Told.says("17", "How often an answer was given in a CELL (answer NONE: how many TRIALS it has)");
        LittleMore x = filled(1000);
        count(x, "all of ALONE 7", y -> y.count(0, 1, 7, 0, 0, -1), 5);
        count(x, "1 of ALONE 7", y -> y.count(0, 1, 7, 0, 0, 1), 5);
        count(x, "0 of ALONE 7", y -> y.count(0, 1, 7, 0, 0, 0), 0);
        count(x, "the last", y -> y.count(0, 1, 200, 0, 0, -1), 5);
        count(x, "a CELL of none", y -> y.count(0, 1, 201, 0, 0, -1), 0);
        for (int answer : new int[] {-2, 2, MIN, MAX}) count(x, "answer " + answer, y -> y.count(0, 1, 7, 0, 0, answer), 0);
        x.clear();
        count(x, "once THE BOOK is empty", y -> y.count(0, 1, 7, 0, 0, -1), 0);
        x.climb(0, 7, 1, 2);
        x.trial(0, 1, 7, 0, 0);
        x.tell(0, 1, 7, 0, 0, 0);
        x.tell(0, 3, 7, 0, 0, 70000);
        count(x, "drawn and told", y -> y.count(0, 1, 7, 0, 0, -1), 3);
        count(x, "a far NUMBER", y -> y.count(0, 3, 7, 0, 0, 70000), 1);
    }

    public static void main(String[] args) {
        seeds();
        trials();
        tells();
        runs();
        climbs();
        books();
        counts();
        Told.end();
    }
}
