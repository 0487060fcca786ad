/** Terms IV, and promises 25 to 36, sentence by sentence. */
public final class EdgesOfLawsTest {
    private static final int MIN = Integer.MIN_VALUE;
    private static final int MAX = Integer.MAX_VALUE;

    /**
     * W is 10, so 100 of two FEELINGS are hundredths: of two alike b is ahead by 33, and by a lead of 1, 2, 3 by 67, 91, 100
     * (behind by 1, 2, 3: by 9, 0, 0 and so on); like ones as many as to the next.
     */
    private static final String TENS = "sense n line 1/1 noise 4 3;sense s line 1/1 noise 1;sense f floor 399 noise 1;"
        + "sayer p of n line 1 tires 1 learns 1;sayer g of n guess;sayer u of n second 1;sayer d of n second less 2;sayer q of s;"
        + "sayer h of s second 50;pay y hit 10 miss less 5 false less 8 right 2 there 30;pay z hit 1 miss 1 false 1 right 1 there 0";

    private static final String WIDE = "sense w line 1/1 noise 1 0 0 0 0 1;sense d line 10/1 noise 1 0 0 0 0 1;sense e line 11/1 noise 1 0 0 0 0 1;"
        + "sense f line 12/1 noise 1 0 0 0 0 1;sense s line 1/1 noise 1;sayer p of w;sayer q of w second less 10;sayer r of w second less 11;sayer t of w line 5;"
        + "sayer u of w line 6";

    private static LittleMore tens() {
        LittleMore x = Texts.roomOf(TENS);
        // p is TIRED by 3 and has LEARNED 1, which doesn't matter where it is FRESH
        for (int i = 0; i < 3; i++) x.tell(0, 1, 9, 0, 0, 1);
        return x;
    }

    private static void more() {
        Told.says("IV", "MORE: FRESH: the least d from 1 on for which the ODDS of 1 in PAIR size, size and d are no less than percent hundredths");
        int[][] mores = {{0, 1, 1}, {0, 67, 1}, {0, 68, 2}, {0, 91, 2}, {0, 92, 3}, {0, 100, 3}, {1, 91, 1}, {1, 92, 2}, {1, 100, 2}, {2, 91, 1},
            {2, 92, 2}, {2, 100, 2}, {3, 9, 1}, {3, 10, 2}, {3, 33, 2}, {3, 34, 3}, {3, 67, 3}, {3, 68, 4}, {3, 91, 4}, {3, 100, 5}, {4, 1, 1}, {4, 100, 1}, {5, 100, 1}};
        for (int[] m : mores) Told.passes("more(" + m[0] + ", 10, " + m[1] + ")", tens(), x -> x.more(m[0], 10, m[1]), m[2]);
        LittleMore x = Texts.roomOf("sense s line 1/7 noise 1;sayer p of s;sense t line 1/1 noise 1 1;sayer q of t");
        int[][] sevenths = {{1, 6}, {6, 1}, {7, 7}, {8, 6}, {13, 1}, {14, 7}};
        for (int[] m : sevenths) Told.due("sevenths at " + m[0], x.more(0, m[0], 100), m[1]);
        Told.due("6 of 9 are 66 hundredths and more", x.more(1, 10, 66), 1);
        Told.due("6 of 9 are less than 67", x.more(1, 10, 67), 2);
        Told.due("8 of 9 are 88 hundredths and more", x.more(1, 10, 88), 2);
        Told.due("8 of 9 are less than 89", x.more(1, 10, 89), 3);
        Told.due("a state as before", x.size(4), 0);

        // NOISES of -5, 0, 5: two differ by -10 .. 10, by 1, 2, 3, 2, 1 of 9
        LittleMore wide = Texts.roomOf(WIDE);
        int[][] wides = {{0, 100, 11}, {0, 89, 11}, {0, 88, 6}, {0, 67, 6}, {0, 66, 1}, {1, 11, 1}, {1, 12, 6}, {1, 33, 6}, {1, 34, 11}, {2, 11, 2}, {2, 1, 2}};
        for (int[] m : wides) Told.due("widest, more(" + m[0] + ", 1, " + m[1] + ")", wide.more(m[0], 1, m[1]), m[2]);

        Told.says("25", "MORE; -2 if there is none up to 400");
        int[][] ends = {{0, 397, 100, 3}, {0, 398, 100, -2}, {0, 398, 91, 2}, {0, 399, 91, -2}, {0, 399, 67, 1}, {0, 399, 68, -2}, {0, 400, 1, -2},
            {4, 399, 100, 1}, {4, 400, 1, -2}, {5, 399, 100, 1}, {5, 400, 1, -2}, {0, 1, 100, 3}};
        for (int[] m : ends) Told.passes("more(" + m[0] + ", " + m[1] + ", " + m[2] + ")", tens(), y -> y.more(m[0], m[1], m[2]), m[3]);
        LittleMore low = Texts.roomOf("sense f floor 399 noise 1;sayer p of f;sayer q of f second 50;sense o line 1/99 noise 1;sayer r of o second less 5");
        Told.due("the last size alone", low.more(0, 1, 100), 399);
        Told.due("from the last but one", low.more(0, 399, 100), 1);
        Told.due("from the last", low.more(0, 400, 1), -2);
        Told.due("a SECOND of 50 from the last", low.more(1, 400, 1), -2);
        Told.due("never", low.more(2, 1, 1), -2);

        Told.says("25", "NONE: 1; 2 (percent (1 .. 100), size 1 .. 400)");
        for (int v : new int[] {-1, 6, MIN, MAX}) Told.refused("more(" + v + ")", EdgesOfLawsTest::tens, y -> y.more(v, 1, 1), -1, 1);
        for (int v : new int[] {-1, 0, 401, MIN, MAX}) Told.refused("more at " + v, EdgesOfLawsTest::tens, y -> y.more(0, v, 1), -1, 2);
        for (int v : new int[] {-1, 0, 101, MIN, MAX}) Told.refused("more for " + v, EdgesOfLawsTest::tens, y -> y.more(0, 1, v), -1, 2);
        Told.refused("no SAYER, no size", EdgesOfLawsTest::tens, y -> y.more(6, 0, 0), -1, 1);
    }

    private static void fails() {
        Told.says("IV", "FAILS by a share: the first size of some at which d is off size by share (downwards, 1 at least) by more than 1, or is none");
        // d is 1 (q), 2 (p, 91), 3 (p, 100) at every size
        int[][] due = {{4, 100, 1, 400, 10, 30}, {4, 100, 1, 29, 10, -2}, {4, 100, 29, 30, 10, 30}, {4, 100, 30, 400, 10, 30}, {4, 100, 31, 400, 10, 31},
            {0, 100, 10, 400, 10, 10}, {0, 100, 20, 400, 10, 50}, {0, 100, 20, 49, 10, -2}, {0, 100, 19, 49, 10, 19}, {0, 100, 20, 20, 10, -2},
            {0, 100, 19, 19, 10, 19}, {0, 100, 49, 49, 10, -2}, {0, 100, 50, 50, 10, 50}, {4, 100, 1, 2, 1, -2}, {4, 100, 1, 3, 1, 3}};
        for (int[] f : due) {
            Told.passes("fails(" + f[0] + ", " + f[1] + ", " + f[2] + ", " + f[3] + ", " + f[4] + ")", tens(), x -> x.fails(f[0], f[1], f[2], f[3], f[4]), f[5]);
        }

        LittleMore sevenths = Texts.roomOf("sense s line 1/7 noise 1;sayer p of s;sayer q of s");
        int[][] by = {{6, 6, 6, -2}, {5, 6, 6, -2}, {4, 6, 6, 4}, {7, 7, 1, -2}, {7, 8, 1, 8}, {13, 13, 7, -2}, {12, 13, 7, -2}, {11, 13, 7, 11}, {393, 399, 399, 393}, {398, 398, 399, -2}, {398, 399, 399, 399}};
        for (int[] s : by) Told.passes("sevenths from " + s[0] + " to " + s[1] + " by " + s[2], sevenths, x -> x.fails(1, 100, s[0], s[1], s[2]), s[3]);

        Told.says("IV", "size by share (downwards, 1 at least)");
        Told.passes("1 by 400 is 1: 2 isn't off", tens(), x -> x.fails(0, 91, 1, 397, 400), -2);
        Told.passes("1 by 400 is 1: 3 is off", tens(), x -> x.fails(0, 100, 1, 397, 400), 1);
        Told.passes("1 by 400 is 1: 1 isn't off", tens(), x -> x.fails(4, 100, 1, 399, 400), -2);

        Told.says("IV", "or is none");
        Told.passes("d is none at 398", tens(), x -> x.fails(0, 100, 390, 400, 130), 398);
        Told.passes("d is none at 400", tens(), x -> x.fails(4, 100, 390, 400, 400), 400);
        Told.passes("and ahead of it there is", tens(), x -> x.fails(4, 100, 390, 399, 400), -2);

        Told.says("26", "of sizes from one to another (1 .. 400), by a share (1 .. 400); NONE: 1; 2 (from above to, too)");
        Told.passes("from 1 to 1 by 1", tens(), x -> x.fails(4, 1, 1, 1, 1), -2);
        Told.passes("from 400 to 400 by 400", tens(), x -> x.fails(4, 1, 400, 400, 400), 400);
        for (int v : new int[] {-1, 6, MIN, MAX}) Told.refused("fails(" + v + ")", EdgesOfLawsTest::tens, x -> x.fails(v, 1, 1, 2, 1), -1, 1);
        for (int v : new int[] {-1, 0, 101, MIN, MAX}) Told.refused("percent " + v, EdgesOfLawsTest::tens, x -> x.fails(0, v, 1, 2, 1), -1, 2);
        for (int v : new int[] {-1, 0, 401, MIN, MAX}) {
            Told.refused("from " + v, EdgesOfLawsTest::tens, x -> x.fails(0, 1, v, 400, 1), -1, 2);
            Told.refused("to " + v, EdgesOfLawsTest::tens, x -> x.fails(0, 1, 1, v, 1), -1, 2);
            Told.refused("share " + v, EdgesOfLawsTest::tens, x -> x.fails(0, 1, 1, 2, v), -1, 2);
        }
        Told.refused("from above to", EdgesOfLawsTest::tens, x -> x.fails(0, 1, 3, 2, 1), -1, 2);
        Told.refused("no SAYER, from above to", EdgesOfLawsTest::tens, x -> x.fails(6, 1, 3, 2, 1), -1, 1);
    }

    private static void stepsAndFelt() {
        Told.says("IV", "STEPS: from a size on again and again size and MORE, as long as it is no greater than another: how many");
        int[][] steps = {{0, 100, 1, 3, 0}, {0, 100, 1, 4, 1}, {0, 100, 1, 6, 1}, {0, 100, 1, 7, 2}, {0, 100, 1, 400, 133}, {0, 100, 2, 400, 132},
            {0, 91, 1, 400, 199}, {0, 91, 2, 400, 199}, {0, 1, 1, 400, 399}, {4, 100, 399, 400, 1}, {4, 100, 400, 400, 0}, {0, 100, 397, 400, 1},
            {0, 100, 398, 400, 0}, {0, 100, 7, 7, 0}, {0, 100, 7, 1, 0}, {0, 100, 400, 1, 0}};
        for (int[] s : steps) {
            Told.passes("steps(" + s[0] + ", " + s[1] + ", " + s[2] + ", " + s[3] + ")", tens(), x -> x.steps(s[0], s[1], s[2], s[3]), s[4]);
        }

        // d is 7 at 7, 14 ..; 6 at 8, 15 ..; 1 at 6, 13 ..
        LittleMore sevenths = Texts.roomOf("sense s line 1/7 noise 1;sayer p of s;sayer q of s");
        int[][] by = {{7, 14, 1}, {7, 13, 0}, {8, 14, 1}, {8, 21, 2}, {8, 20, 1}, {6, 7, 1}, {6, 21, 3}, {1, 399, 57}, {1, 400, 57}, {393, 400, 1}, {399, 400, 0}};
        for (int[] s : by) Told.passes("sevenths from " + s[0] + " to " + s[1], sevenths, x -> x.steps(1, 100, s[0], s[1]), s[2]);

        Told.says("27", "NONE: 1; 2 (sizes 1 .. 400; percent)");
        for (int v : new int[] {-1, 6, MIN, MAX}) Told.refused("steps(" + v + ")", EdgesOfLawsTest::tens, x -> x.steps(v, 1, 1, 2), -1, 1);
        for (int v : new int[] {-1, 0, 101, MIN, MAX}) Told.refused("percent " + v, EdgesOfLawsTest::tens, x -> x.steps(0, v, 1, 2), -1, 2);
        for (int v : new int[] {-1, 0, 401, MIN, MAX}) {
            Told.refused("from " + v, EdgesOfLawsTest::tens, x -> x.steps(0, 1, v, 2), -1, 2);
            Told.refused("to " + v, EdgesOfLawsTest::tens, x -> x.steps(0, 1, 1, v), -1, 2);
        }
        Told.refused("no SAYER, no percent", EdgesOfLawsTest::tens, x -> x.steps(6, 0, 1, 2), -1, 1);

        Told.says("IV", "FELT: the least size whose ODDS of 1 in ALONE, FRESH, less those of size 0, are no less than percent hundredths");
        // p, LINE 1: sizes 1, 2, 3 are above it by 3, 7, 10 of 10, size 0 never; g, LINE 0: by 7, 10, size 0 by 3
        int[][] felt = {{0, 1, 1}, {0, 30, 1}, {0, 31, 2}, {0, 70, 2}, {0, 71, 3}, {0, 100, 3}, {1, 1, 1}, {1, 40, 1}, {1, 41, 2}, {1, 70, 2}, {1, 71, -2}};
        for (int[] f : felt) Told.passes("felt(" + f[0] + ", " + f[1] + ")", tens(), x -> x.felt(f[0], f[1]), f[2]);
        LittleMore x = Texts.roomOf("sense n line 1/1 noise 1 1;sayer p of n line 10");
        Told.due("1 of 3 is 33 hundredths and more", x.felt(0, 33), 10);
        Told.due("1 of 3 is less than 34", x.felt(0, 34), 11);
        Told.due("2 of 3 are 66 and more", x.felt(0, 66), 11);
        Told.due("2 of 3 are less than 67", x.felt(0, 67), 12);

        LittleMore wide = Texts.roomOf(WIDE);
        int[][] wides = {{3, 33, 1}, {3, 34, 6}, {3, 66, 6}, {3, 67, 11}, {3, 100, 11}, {4, 33, 2}, {4, 100, 12}};
        for (int[] f : wides) Told.due("widest, felt(" + f[0] + ", " + f[1] + ")", wide.felt(f[0], f[1]), f[2]);

        Told.says("28", "FELT; -2 if there is none up to 400");
        LittleMore far = Texts.roomOf("sense f floor 399 noise 1;sense g line 1/8 noise 1;sayer p of f;sayer q of f line 1;sayer r of g line 49;"
            + "sayer s of g line 50;sayer t of f line less 1");
        Told.passes("400", far, y -> y.felt(0, 100), 400);
        Told.passes("never above 1", far, y -> y.felt(1, 1), -2);
        Told.passes("400 too", far, y -> y.felt(2, 100), 400);
        Told.passes("never above 50", far, y -> y.felt(3, 1), -2);
        Told.passes("always above less 1, at size 0 too", far, y -> y.felt(4, 1), -2);

        Told.says("28", "NONE: 1; 2");
        for (int v : new int[] {-1, 6, MIN, MAX}) Told.refused("felt(" + v + ")", EdgesOfLawsTest::tens, y -> y.felt(v, 1), -1, 1);
        for (int v : new int[] {-1, 0, 101, MIN, MAX}) Told.refused("percent " + v, EdgesOfLawsTest::tens, y -> y.felt(0, v), -1, 2);
        Told.refused("no SAYER, no percent", EdgesOfLawsTest::tens, y -> y.felt(6, 0), -1, 1);
    }

    private static void pay() {
        Told.says("IV", "GAIN: there times (ODDS of 1 times hit, of 0 times miss) and (100 less there) times (of size 0: ODDS of 1 times false, of 0 times right): in all");
        // LINE 0 at size 1: 7 and 3 of 10; at size 0: 3 and 7. 30 times (70 less 15) and 70 times (14 less 24).
        Told.passes("LINE 0", tens(), x -> x.gain(0, 0, 1, 0), 30 * 55 - 70 * 10);
        Told.passes("LINE 1", tens(), x -> x.gain(0, 0, 1, 1), 30 * (3 * 10 - 7 * 5) + 70 * (10 * 2));
        Told.passes("LINE -1: a FEELING of -1 isn't above it", tens(), x -> x.gain(0, 0, 1, -1), 30 * 100 + 70 * (7 * -8 + 3 * 2));
        Told.passes("LINE -2", tens(), x -> x.gain(0, 0, 1, -2), 30 * 100 + 70 * -80);
        Told.passes("LINE -50", tens(), x -> x.gain(0, 0, 400, -50), 30 * 100 + 70 * -80);
        Told.passes("LINE 50", tens(), x -> x.gain(0, 0, 1, 50), 30 * -50 + 70 * 20);
        Told.passes("LINE 50 at 50", tens(), x -> x.gain(0, 0, 50, 50), 30 * (3 * 10 - 7 * 5) + 70 * 20);
        Told.passes("no noise", tens(), x -> x.gain(0, 4, 1, 0), 30 * 10 + 70 * 2);
        Told.passes("its own LINE and SECOND don't matter", tens(), x -> x.gain(0, 5, 1, 1), 30 * -5 + 70 * 2);

        Told.says("IV", "there (0 .. 100)");
        LittleMore x = Texts.roomOf("sense s line 1/1 noise 9 9 9 9 9 9;sayer p of s;pay a hit 99 miss 98 false 97 right 96 there 0;"
            + "pay b hit 99 miss 98 false 97 right 96 there 100;pay c hit less 99 miss less 99 false less 99 right less 99 there 50");
        Told.due("there 0", x.gain(0, 0, 100, 5), 100 * 99 * 96);
        Told.due("there 100", x.gain(1, 0, 100, 5), 100 * 99 * 99);
        Told.due("all less 99", x.gain(2, 0, 100, 5), -100 * 99 * 99);

        Told.says("29", "GAIN by a LINE (-50 .. 50). -2^63: 1; 2 (size 1 .. 400)");
        for (int v : new int[] {-1, 2, MIN, MAX}) Told.refused("gain(" + v + ")", EdgesOfLawsTest::tens, y -> y.gain(v, 0, 1, 0), Long.MIN_VALUE, 1);
        for (int v : new int[] {-1, 6, MIN, MAX}) Told.refused("gain of " + v, EdgesOfLawsTest::tens, y -> y.gain(0, v, 1, 0), Long.MIN_VALUE, 1);
        for (int v : new int[] {-1, 0, 401, MIN, MAX}) Told.refused("gain at " + v, EdgesOfLawsTest::tens, y -> y.gain(0, 0, v, 0), Long.MIN_VALUE, 2);
        for (int v : new int[] {-51, 51, MIN, MAX}) Told.refused("gain by " + v, EdgesOfLawsTest::tens, y -> y.gain(0, 0, 1, v), Long.MIN_VALUE, 2);
        Told.refused("no pay, no size", EdgesOfLawsTest::tens, y -> y.gain(2, 0, 0, 0), Long.MIN_VALUE, 1);
        Told.refused("no SAYER, no LINE", EdgesOfLawsTest::tens, y -> y.gain(0, 6, 1, 51), Long.MIN_VALUE, 1);

        Told.says("IV", "BEST LINE: -50 .. 50 with the greatest, the least such");
        String ways = "sense s line 1/1 noise 1;sayer p of s line 7;pay a hit 0 miss 1 false 0 right 0 there 100;pay b hit 1 miss 0 false 0 right 0 there 100;"
            + "pay c hit 1 miss 0 false 0 right 1 there 50;pay d hit 0 miss 0 false 0 right 0 there 50";
        int[][] best = {{0, 50, 50}, {0, 49, 49}, {0, 1, 1}, {0, 51, -50}, {0, 400, -50}, {1, 1, -50}, {1, 400, -50}, {2, 1, 0}, {2, 50, 0}, {2, 400, 0}, {3, 1, -50}};
        for (int[] b : best) {
            LittleMore y = Texts.roomOf(ways);
            Told.passes("best(" + b[0] + ", 0, " + b[1] + ")", y, z -> z.best(b[0], 0, b[1]), b[2]);
            Told.due("the LINE stays", y.sayer(0, 1), 7);
            Told.passes("moves(" + b[0] + ", 0, " + b[1] + ")", y, z -> z.moves(b[0], 0, b[1]), b[2] - 7);
            Told.due("the LINE is it", y.sayer(0, 1), b[2]);
            Told.passes("moves again", y, z -> z.moves(b[0], 0, b[1]), 0);
        }
        // hit and right by LINES -2 .. 2 at size 1: 1,000 for there, and 0; 1,000 and 300; 700 and 700; 300 and 1,000; 0 and 1,000
        LittleMore y = Texts.roomOf("sense n line 1/1 noise 4 3;sayer p of n line 9 tires 1 learns 1;pay a hit 1 miss 0 false 0 right 1 there 50;"
            + "pay b hit 1 miss 0 false 0 right 1 there 58;pay c hit 1 miss 0 false 0 right 1 there 42");
        for (int i = 0; i < 3; i++) y.tell(0, 1, 9, 0, 0, 1);
        Told.due("by a half", y.best(0, 0, 1), 0);
        Told.due("by 58: 58 and 12.6, 40.6 and 29.4, the least of these is greater", y.best(1, 0, 1), -1);
        Told.due("by 42", y.best(2, 0, 1), 1);

        Told.says("31", "A SAYER's LINE becomes the BEST: by how much it moves");
        y = Texts.roomOf(ways + ";sayer q of s line less 50;sayer r of s line 50");
        Told.due("from -50 to 50", y.moves(0, 1, 50), 100);
        Told.due("from 50 to -50", y.moves(1, 2, 1), -100);
        Told.due("ALONE goes by it", y.odds(1, 1, 50, 0, 0, 1, false), 0);
        Told.due("ALONE goes by it", y.odds(1, 1, 51, 0, 0, 1, false), 1);
        Told.due("another's stays", y.sayer(0, 1), 7);

        for (String call : new String[] {"best", "moves"}) {
            boolean moves = call.equals("moves");
            Told.says(moves ? "31" : "30", "-1,000: 1; 2");
            for (int v : new int[] {-1, 2, MIN, MAX}) {
                Told.refused(call + "(" + v + ")", EdgesOfLawsTest::tens, z -> moves ? z.moves(v, 0, 1) : z.best(v, 0, 1), -1000, 1);
            }
            for (int v : new int[] {-1, 6, MIN, MAX}) {
                Told.refused(call + " of " + v, EdgesOfLawsTest::tens, z -> moves ? z.moves(0, v, 1) : z.best(0, v, 1), -1000, 1);
            }
            for (int v : new int[] {-1, 0, 401, MIN, MAX}) {
                Told.refused(call + " at " + v, EdgesOfLawsTest::tens, z -> moves ? z.moves(0, 0, v) : z.best(0, 0, v), -1000, 2);
            }
            Told.refused(call + ", no pay, no size", EdgesOfLawsTest::tens, z -> moves ? z.moves(2, 0, 0) : z.best(2, 0, 0), -1000, 1);
        }
    }

    /** c is like s up to 21 and 21 from there on; i, j and k are like s, c and s with NOISES. */
    private static LittleMore laws() {
        return Texts.roomOf("sense s line 1/1 noise 1;sense c power 3/1 then power 1/3 noise 1;sense i line 1/1 noise 1 1;"
            + "sense j power 3/1 then power 1/3 noise 1 1;sense k line 1/1 noise 3 1;sense l line 1/1 noise 3 3;sayer p of s line 9 second 9 guess likes 3");
    }

    private static void parted(String room, int one, int other, int kind, int from, int to, int want) {
        LittleMore x = room == null ? laws() : Texts.roomOf(room + ";sayer p of a");
        String call = "parted(" + one + ", " + other + ", " + kind + ", " + from + ", " + to + ")";
        Told.passes(call, x, y -> y.parted(one, other, kind, from, to), want);
        Told.passes(call + " turned round", x, y -> y.parted(other, one, kind, from, to), want);
    }

    private static void parted() {
        Told.says("IV", "PARTED: two SENSES by a kind: the first TRIAL (by a, then b; sizes from one to another): PAIR (no SECOND, no guess)");
        parted(null, 0, 1, 0, 1, 400, 21022);
        parted(null, 0, 1, 0, 1, 22, 21022);
        parted(null, 0, 1, 0, 1, 21, -2);
        parted(null, 0, 1, 0, 21, 22, 21022);
        parted(null, 0, 1, 0, 22, 400, 22023);
        parted(null, 0, 1, 0, 399, 400, 399400);
        parted(null, 0, 1, 0, 400, 400, -2);
        // 19, 22 are ahead by 3 and 2: 9 and 8 of 9
        parted(null, 2, 3, 0, 1, 400, 19022);
        parted(null, 2, 3, 0, 1, 21, -2);
        parted(null, 2, 3, 0, 20, 400, 20022);
        parted(null, 2, 4, 0, 1, 400, 1001);
        parted(null, 2, 4, 0, 7, 7, 7007);
        parted(null, 2, 4, 0, 400, 400, 400400);
        // of like ones each answer has 3 of 9 by both; ahead by 1 it is 1 by 6 of both, 0 by 1 and 3
        parted("sense a line 1/1 noise 1 1;sense b line 1/1 noise 1 0 1", 0, 1, 0, 1, 1, -2);
        parted("sense a line 1/1 noise 1 1;sense b line 1/1 noise 1 0 1", 0, 1, 0, 1, 2, 1002);

        // the widest NOISES: ahead by 6 or 9 it is 1 by 8 and 0 by 1 of 9, ahead by 10 it is 2 by that 1, ahead by 11 or 12 it is 1 for sure
        String wide = "sense a line 6/1 noise 1 0 0 0 0 1;sense b line 9/1 noise 1 0 0 0 0 1;sense c line 10/1 noise 1 0 0 0 0 1;"
            + "sense d line 11/1 noise 1 0 0 0 0 1;sense e line 12/1 noise 1 0 0 0 0 1";
        parted(wide, 0, 1, 0, 1, 2, -2);
        parted(wide, 1, 2, 0, 1, 2, 1002);
        parted(wide, 2, 3, 0, 1, 2, 1002);
        parted(wide, 3, 4, 0, 1, 2, -2);

        Told.says("IV", "ALONE (LINE 0)");
        parted(null, 0, 1, 1, 0, 400, -2);
        parted(null, 2, 4, 1, 0, 400, 0);
        parted(null, 2, 4, 1, 0, 0, 0);
        parted(null, 2, 4, 1, 1, 400, 1000);
        parted(null, 2, 4, 1, 2, 400, -2);
        parted(null, 0, 2, 1, 0, 400, 0);
        parted("sense a floor 399 noise 1;sense b floor 398 noise 1", 0, 1, 1, 0, 400, 399000);
        parted("sense a floor 399 noise 1;sense b line 1/99 then floor 4 noise 1", 0, 1, 1, 0, 400, 400000);
        parted("sense a line 1/99 then floor 4 noise 1;sense b line 1/99 then floor 5 noise 1", 0, 1, 1, 0, 400, -2);
        parted("sense a floor 399 noise 1;sense b line 1/99 then floor 5 noise 1", 0, 1, 1, 0, 399, -2);

        Told.says("IV", "NUMBER (nothing liked)");
        parted(null, 0, 1, 3, 1, 400, 22000);
        parted(null, 0, 1, 3, 1, 21, -2);
        parted(null, 0, 1, 3, 400, 400, 400000);
        parted(null, 2, 3, 3, 1, 400, 22000);
        parted(null, 2, 4, 3, 5, 9, 5000);
        parted(null, 0, 2, 3, 1, 400, 1000);
        // a NUMBER is 0 at least: LEVELS 0 without NOISE and with it
        parted("sense a floor 5 noise 1 1;sense b floor 6 noise 1 1", 0, 1, 3, 1, 400, 6000);
        parted("sense a floor 5 noise 1;sense b floor 5 noise 1 1", 0, 1, 3, 1, 400, 1000);
        parted("sense a floor 399 noise 1 2;sense b floor 399 noise 3 6", 0, 1, 3, 1, 400, -2);
        parted("sense a floor 399 noise 1 2;sense b floor 399 noise 2 3", 0, 1, 3, 1, 400, 1000);
        parted("sense a line 99/1 noise 1;sense b line 99/1 then floor 1 noise 1", 0, 1, 3, 1, 400, 1000);

        Told.says("IV", "the ODDS of some answer are unlike, as parts of WHOLE");
        for (int kind : new int[] {0, 1, 3}) {
            parted(null, 2, 5, kind, 1, 400, -2);
            parted(null, 2, 2, kind, 1, 400, -2);
        }
        String halves = "sense a line 1/1 noise 2 3;sense b line 1/1 noise 2 2 1";
        // W is 8 both: of like ones 1 has 2 * 3 + 2 * 3 + 9 = 21 and 22 of 64
        parted(halves, 0, 1, 0, 1, 400, 1001);
        // at 5 the NUMBERS 4 and 6 have 3 and 2 of 8
        parted(halves, 0, 1, 3, 5, 400, 5000);
        // 1 of ALONE 0 and 1 has 3 and 5 of 8 by both, of 2 all of 8 and 7
        parted(halves, 0, 1, 1, 0, 400, 2000);
        parted(halves, 0, 1, 1, 0, 1, -2);

        Told.says("32", "1,000 times a, and b (of PAIR); -2 if they aren't; NONE: 1 (kind, too)");
        for (int kind : new int[] {-1, 2, 4, 5, 6, MIN, MAX}) Told.refused("kind " + kind, EdgesOfLawsTest::laws, x -> x.parted(0, 1, kind, 1, 2), -1, 1);
        for (int v : new int[] {-1, 6, MIN, MAX}) {
            Told.refused("parted(" + v + ")", EdgesOfLawsTest::laws, x -> x.parted(v, 1, 0, 1, 2), -1, 1);
            Told.refused("parted of " + v, EdgesOfLawsTest::laws, x -> x.parted(0, v, 0, 1, 2), -1, 1);
        }

        Told.says("32", "sizes from one to another, 1 .. 400; of ALONE 0 .. 400; NONE: 2 (from above to, too)");
        for (int kind : new int[] {0, 1, 3}) {
            for (int v : new int[] {-1, 401, MIN, MAX}) {
                Told.refused("kind " + kind + " from " + v, EdgesOfLawsTest::laws, x -> x.parted(0, 1, kind, v, 400), -1, 2);
                Told.refused("kind " + kind + " to " + v, EdgesOfLawsTest::laws, x -> x.parted(0, 1, kind, 1, v), -1, 2);
            }
            Told.refused("kind " + kind + " from above to", EdgesOfLawsTest::laws, x -> x.parted(0, 1, kind, 3, 2), -1, 2);
            Told.refused("kind " + kind + " from 1 to 0", EdgesOfLawsTest::laws, x -> x.parted(0, 1, kind, 1, 0), -1, 2);
            if (kind != 1) Told.refused("kind " + kind + " from 0", EdgesOfLawsTest::laws, x -> x.parted(0, 1, kind, 0, 400), -1, 2);
        }
        Told.refused("no kind, from above to", EdgesOfLawsTest::laws, x -> x.parted(0, 1, 2, 3, 2), -1, 1);
        Told.refused("no SENSE, from above to", EdgesOfLawsTest::laws, x -> x.parted(6, 1, 0, 3, 2), -1, 1);
    }

    private static void fewest() {
        Told.says("IV", "FEWEST: the least n (up to 40) for which the SPANS of answers 1 of PAIR a, b by both have no count in common");
        LittleMore x = Texts.roomOf("sense s line 1/1 noise 1;sense n line 1/1 noise 1 1;sense t line 1/1 noise 4 3;sense u line 1/1 noise 7 5;"
            + "sense c power 3/1 then power 1/3 noise 1;sense h line 1/2 noise 1 1;sayer p of s second 9 guess");
        // 1 is sure by s, and never by c
        Told.passes("at once", x, y -> y.fewest(0, 4, 21, 22), 1);
        Told.passes("at once, turned round", x, y -> y.fewest(4, 0, 21, 22), 1);
        Told.passes("never: alike", x, y -> y.fewest(0, 4, 21, 21), -2);
        Told.passes("never: itself", x, y -> y.fewest(1, 1, 21, 22), -2);
        // 1 never by s; by n a third: two thirds to the 9th are a 38th, to the 10th a 58th
        Told.passes("ten", x, y -> y.fewest(0, 1, 9, 9), 10);
        // by t 9 of 100: 0.91 to the 39th is 0.0253, to the 40th 0.0230
        Told.passes("forty", x, y -> y.fewest(0, 2, 10, 9), 40);
        Told.passes("forty, turned round", x, y -> y.fewest(2, 0, 10, 9), 40);
        // by u 25 of 289: 0.9135 to the 40th is 0.0268, to the 41st 0.0245
        Told.passes("forty-one", x, y -> y.fewest(0, 3, 10, 9), -2);
        // 1 is sure by s; by t 91 of 100
        Told.passes("forty from above", x, y -> y.fewest(0, 2, 9, 11), 40);
        LittleMore wide = Texts.roomOf(WIDE);
        // 1 of the widest NOISES: behind by 9 it has 1 of 9, behind by 10 none; ahead by 10 it has 8 of 9, ahead by 11 all
        Told.passes("widest, behind by 9", wide, y -> y.fewest(0, 4, 19, 10), 32);
        Told.passes("widest, behind by 10", wide, y -> y.fewest(0, 4, 20, 10), -2);
        Told.passes("widest, ahead by 10", wide, y -> y.fewest(0, 4, 10, 20), 32);
        Told.passes("widest, ahead by 11", wide, y -> y.fewest(0, 4, 10, 21), -2);
        int least = -2;
        for (int n = 40; n >= 1; n--) {
            int[] third = Plain.span(n, 3, 9);
            int[] thirds = Plain.span(n, 6, 9);
            if (third[1] < thirds[0]) least = n;
        }
        Told.passes("a third by h, two thirds by n", x, y -> y.fewest(1, 5, 8, 9), least);
        Told.passes("turned round", x, y -> y.fewest(5, 1, 8, 9), least);

        Told.says("33", "NONE: 1; 2");
        for (int v : new int[] {-1, 6, MIN, MAX}) {
            Told.refused("fewest(" + v + ")", EdgesOfLawsTest::laws, y -> y.fewest(v, 1, 1, 2), -1, 1);
            Told.refused("fewest of " + v, EdgesOfLawsTest::laws, y -> y.fewest(0, v, 1, 2), -1, 1);
        }
        for (int v : new int[] {-1, 0, 401, MIN, MAX}) {
            Told.refused("a " + v, EdgesOfLawsTest::laws, y -> y.fewest(0, 1, v, 2), -1, 2);
            Told.refused("b " + v, EdgesOfLawsTest::laws, y -> y.fewest(0, 1, 1, v), -1, 2);
        }
        Told.passes("a 1, b 400", laws(), y -> y.fewest(0, 1, 1, 400), -2);
        Told.passes("a 400, b 1", laws(), y -> y.fewest(0, 1, 400, 1), -2);
        Told.refused("no SENSE, no a", EdgesOfLawsTest::laws, y -> y.fewest(6, 1, 0, 2), -1, 1);
    }

    private static LittleMore matching() {
        return Texts.roomOf("sense s line 1/1 noise 1;sense d line 2/1 noise 9 9;sense h line 1/2 noise 1;sense f floor 399 noise 1;sense t floor 9 noise 1;"
            + "sense b line 99/1 noise 1;sayer p of s");
    }

    private static void matches() {
        Told.says("IV", "a size of a SENSE matched by LEVEL (the least size 1 .. 400 of the other whose LEVEL is nearest)");
        int[][] due = {{0, 5, 0, 5}, {0, 1, 0, 1}, {0, 400, 0, 400}, {0, 5, 1, 2}, {0, 6, 1, 3}, {0, 7, 1, 3}, {0, 1, 1, 1}, {0, 400, 1, 200}, {0, 5, 2, 10},
            {0, 200, 2, 400}, {0, 201, 2, 400}, {0, 400, 2, 400}, {0, 1, 3, 400}, {3, 399, 0, 1}, {3, 400, 0, 1}, {3, 1, 4, 1}, {4, 9, 0, 1}, {4, 400, 0, 391},
            {0, 391, 4, 400}, {0, 1, 4, 10}, {3, 1, 3, 1}, {3, 400, 3, 400}, {2, 1, 2, 1}, {2, 2, 2, 2}, {2, 3, 2, 2}, {5, 400, 1, 400}, {1, 400, 5, 8}, {5, 5, 0, 400}};
        LittleMore flat = laws();
        Told.passes("of like ones far below the least", flat, x -> x.match(0, 400, 1), 21);
        Told.passes("of like ones far above the least", Texts.roomOf("sense a floor 399 noise 1;sense b line 1/99 then line 99/1 noise 1"), x -> x.match(0, 1, 1), 1);
        Told.passes("of like ones nearest from above the least", Texts.roomOf("sense a line 60/1 noise 1;sense b line 1/99 then line 99/1 noise 1"), x -> x.match(0, 1, 1), 99);
        for (int[] m : due) Told.passes("match(" + m[0] + ", " + m[1] + ", " + m[2] + ")", matching(), x -> x.match(m[0], m[1], m[2]), m[3]);

        Told.says("34", "NONE: 1; 2");
        for (int v : new int[] {-1, 6, MIN, MAX}) {
            Told.refused("match(" + v + ")", EdgesOfLawsTest::matching, x -> x.match(v, 1, 0), -1, 1);
            Told.refused("match to " + v, EdgesOfLawsTest::matching, x -> x.match(0, 1, v), -1, 1);
        }
        for (int v : new int[] {-1, 0, 401, MIN, MAX}) Told.refused("match at " + v, EdgesOfLawsTest::matching, x -> x.match(0, v, 1), -1, 2);
        Told.refused("no SENSE, no size", EdgesOfLawsTest::matching, x -> x.match(0, 0, 6), -1, 1);

        Told.says("IV", "CLOSES: a size of a SENSE matched to a second, that to a third, that to the first again: less the size");
        // s 7 is 3 by d (LEVEL 6), that is 12 by h, that is 6 by s
        int[][] closes = {{0, 1, 2, 7, -1}, {0, 1, 2, 8, 0}, {2, 0, 0, 21, -1}, {2, 0, 0, 1, 1}, {0, 0, 0, 400, 0}, {0, 3, 0, 9, -8}, {0, 3, 0, 1, 0}, {0, 2, 0, 400, -200},
            {3, 0, 0, 1, 399}, {3, 3, 3, 399, -398}, {0, 4, 0, 1, 0}, {4, 0, 3, 9, 1}};
        for (int[] c : closes) {
            Told.passes("closes(" + c[0] + ", " + c[1] + ", " + c[2] + ", " + c[3] + ")", matching(), x -> x.closes(c[0], c[1], c[2], c[3]), c[4]);
        }

        Told.says("35", "-1,000: 1; 2");
        for (int v : new int[] {-1, 6, MIN, MAX}) {
            Told.refused("closes(" + v + ")", EdgesOfLawsTest::matching, x -> x.closes(v, 0, 0, 1), -1000, 1);
            Told.refused("closes by " + v, EdgesOfLawsTest::matching, x -> x.closes(0, v, 0, 1), -1000, 1);
            Told.refused("closes by a third " + v, EdgesOfLawsTest::matching, x -> x.closes(0, 0, v, 1), -1000, 1);
        }
        for (int v : new int[] {-1, 0, 401, MIN, MAX}) Told.refused("closes at " + v, EdgesOfLawsTest::matching, x -> x.closes(0, 0, 0, v), -1000, 2);
        Told.refused("no third, no size", EdgesOfLawsTest::matching, x -> x.closes(0, 0, 6, 0), -1000, 1);
    }

    private static LittleMore stairs() {
        LittleMore x = Texts.roomOf("sense n line 1/1 noise 1 1;sense s line 1/1 noise 1;sense w floor 399 noise 9 9 9 9 9 9;sayer p of n line 9 tires 1 learns 1;"
            + "sayer q of s line 9;sayer r of w line 50;sayer t of w line less 50");
        for (int i = 0; i < 3; i++) x.tell(0, 1, 9, 0, 0, 1);
        return x;
    }

    private static void stair() {
        Told.says("IV", "A STAIR: ALONE, FRESH, from a size on: after 1 it goes down by a step, after 0 up, within 1 .. 400");
        int[][] sure = {{10, 3, 1, 7}, {9, 3, 1, 12}, {10, 9, 1, 1}, {10, 10, 1, 1}, {10, 8, 1, 2}, {400, 399, 1, 1}, {400, 398, 1, 2}, {400, 400, 1, 1},
            {1, 399, 1, 400}, {1, 400, 1, 400}, {1, 398, 1, 399}, {9, 391, 1, 400}, {9, 392, 1, 400}, {9, 390, 1, 399}, {1, 400, 2, 1}, {400, 1, 9, 391},
            {9, 1, 9, 10}, {9, 1, 8, 9}, {1, 1, 9, 10}};
        for (int[] s : sure) {
            for (int end = 1; end <= 400; end += end == s[3] - 1 || end == s[3] ? 1 : 7) {
                int e = end;
                Told.due("stair(1, " + s[0] + ", " + s[1] + ", " + s[2] + ", " + end + ")", stairs().stair(1, s[0], s[1], s[2], e), end == s[3] ? 1 : 0);
            }
            Told.passes("stair(1, " + s[0] + ", " + s[1] + ", " + s[2] + ", " + s[3] + ")", stairs(), x -> x.stair(1, s[0], s[1], s[2], s[3]), 1);
        }

        Told.says("36", "How many NOISES in a row (of W to the n) bring a STAIR to a size at its end");
        // at 8, 9, 10, 11 it says 1 by 0, 1, 2, 3 of 3
        Told.passes("9, one", stairs(), x -> x.stair(0, 9, 1, 1, 8), 1);
        Told.passes("9, one up", stairs(), x -> x.stair(0, 9, 1, 1, 10), 2);
        Told.passes("9, two", stairs(), x -> x.stair(0, 9, 1, 2, 9), 1 * 3 + 2 * 2);
        Told.passes("9, two up", stairs(), x -> x.stair(0, 9, 1, 2, 11), 2 * 1);
        Told.passes("9, two down", stairs(), x -> x.stair(0, 9, 1, 2, 7), 0);
        Told.passes("9, three", stairs(), x -> x.stair(0, 9, 1, 3, 8), 7 * 1);
        Told.passes("9, three up", stairs(), x -> x.stair(0, 9, 1, 3, 10), 7 * 2 + 2 * 3);
        long all = 0;
        for (int end = 1; end <= 400; end++) all += stairs().stair(0, 9, 3, 9, end);
        Told.due("all ends together are W to the 9th", all, 19683);
        LittleMore again = stairs();
        int[][] back = {{9, 7}, {300, 0}, {10, 7}, {5, 0}, {9, 7}};
        for (int[] one : back) Told.passes("on one object, two and back at " + one[0], again, x -> x.stair(0, one[0], 1, 2, one[0]), one[1]);
        Told.passes("99 to the 9th, up", stairs(), x -> x.stair(2, 1, 1, 9, 10), 913517247483640899L);
        Told.passes("99 to the 9th, down", stairs(), x -> x.stair(3, 10, 1, 9, 1), 913517247483640899L);
        Told.passes("99 to the 9th, at 400", stairs(), x -> x.stair(2, 399, 7, 9, 400), 913517247483640899L);

        Told.says("36", "n 1 .. 9; NONE: 1; 2 (sizes, step 1 .. 400, n)");
        for (int v : new int[] {-1, 4, MIN, MAX}) Told.refused("stair(" + v + ")", EdgesOfLawsTest::stairs, x -> x.stair(v, 1, 1, 1, 2), -1, 1);
        for (int v : new int[] {-1, 0, 401, MIN, MAX}) {
            Told.refused("start " + v, EdgesOfLawsTest::stairs, x -> x.stair(0, v, 1, 1, 2), -1, 2);
            Told.refused("step " + v, EdgesOfLawsTest::stairs, x -> x.stair(0, 1, v, 1, 2), -1, 2);
            Told.refused("end " + v, EdgesOfLawsTest::stairs, x -> x.stair(0, 1, 1, 1, v), -1, 2);
        }
        for (int v : new int[] {-1, 0, 10, MIN, MAX}) Told.refused("n " + v, EdgesOfLawsTest::stairs, x -> x.stair(0, 1, 1, v, 2), -1, 2);
        Told.refused("no SAYER, no n", EdgesOfLawsTest::stairs, x -> x.stair(4, 1, 1, 0, 2), -1, 1);
        LittleMore before = stairs();
        String state = Told.state(before);
        before.stair(0, 9, 1, 9, 9);
        Told.due("nothing comes into THE BOOK, nothing is drawn", Told.state(before).equals(state), true);
    }

    public static void main(String[] args) {
        more();
        fails();
        stepsAndFelt();
        pay();
        parted();
        fewest();
        matches();
        stair();
        Told.end();
    }
}
