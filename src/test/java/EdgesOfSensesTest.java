/** Terms II, LEVEL to ODDS, and promises 6 to 10, sentence by sentence. */
public final class EdgesOfSensesTest {
    private static final int MIN = Integer.MIN_VALUE;
    private static final int MAX = Integer.MAX_VALUE;

    /** A sense s with these steps and without noise. */
    private static LittleMore law(String steps) {
        return Texts.roomOf("sense s " + steps + " noise 1");
    }

    private static void levels(String steps, int... sizesAndLevels) {
        LittleMore x = law(steps);
        for (int i = 0; i + 1 < sizesAndLevels.length; i += 2) {
            Told.due(steps + " at " + sizesAndLevels[i], x.level(0, sizesAndLevels[i]), sizesAndLevels[i + 1]);
        }
    }

    private static void levelOfASense() {
        Told.says("II", "LEVEL of a SENSE at a size (0 .. 400)");
        levels("line 1/1", 0, 0, 1, 1, 399, 399, 400, 400, -1, -1, 401, -1, MIN, -1, MAX, -1);

        Told.says("II", "STEPS from the left");
        levels("floor 3 then line 2/1", 3, 0, 5, 4);
        levels("line 2/1 then floor 3", 1, 0, 2, 1, 5, 7);
        levels("floor 1 then floor 1 then floor 1 then line 3/1", 3, 0, 4, 3, 400, 1191);
        levels("power 2/1 then floor 399 then power 1/2 then share 2", 19, 0, 20, 1, 21, 5, 400, 12);

        Told.says("II", "each no further than to 9,999");
        levels("line 99/1", 0, 0, 1, 99, 100, 9900, 101, 9999, 102, 9999, 400, 9999);
        levels("line 25/1", 399, 9975, 400, 9999);
        levels("line 25/1 then floor 1", 399, 9974, 400, 9998);
        levels("line 99/1 then line 1/99", 101, 101, 102, 101, 400, 101);
        levels("power 2/1", 99, 9801, 100, 9999, 400, 9999);
        levels("power 2/1 then power 1/2", 99, 99, 100, 99, 400, 99);
        levels("power 3/1", 21, 9261, 22, 9999, 400, 9999);
        levels("power 3/1 then power 3/1 then power 3/1 then power 3/1", 1, 1, 2, 9999, 400, 9999);
        levels("power 3/1 then power 3/2 then floor 9", 400, 9990);
        levels("power 3/1 then power 1/3", 21, 21, 22, 21, 400, 21);
        levels("power 3/1 then line 99/99", 400, 9999);
        levels("power 3/1 then line 99/1 then floor 399 then floor 399", 400, 9201);

        Told.says("II", "share s: of MARKS 1, and each next one so much more as its s-th part, downwards: how many are no greater than it");
        // by halves the MARKS are 1 2 3 4 6 9 13 19 28 42 63 94 141 211 316 474
        levels("share 2", 0, 0, 1, 1, 2, 2, 3, 3, 4, 4, 5, 4, 6, 5, 8, 5, 9, 6, 12, 6, 13, 7, 18, 7, 19, 8, 315, 14, 316, 15, 400, 15);
        // by thirds: 1 2 3 4 5 6 8 10 13 17
        levels("share 3", 5, 5, 6, 6, 7, 6, 8, 7, 9, 7, 10, 8, 12, 8, 13, 9, 16, 9, 17, 10);
        // by halves again, as far as the 9,999 of 22 cubed: the 23rd is 8,092, the next one 12,138
        levels("power 3/1 then share 2", 1, 1, 2, 5, 20, 22, 21, 23, 22, 23, 400, 23);

        Told.says("II", "share: so much more .., 1 at least");
        // up to 198 each next MARK is 1 more, from there on 2: 200, 202, ..
        levels("share 99", 1, 1, 2, 2, 98, 98, 99, 99, 197, 197, 198, 198, 199, 198, 200, 199, 201, 199, 202, 200, 295, 246, 296, 247);
        levels("share 99", 297, 247, 298, 248, 299, 248, 300, 248, 301, 249);

        Told.says("II", "power a / b: the greatest whole whose b-th power is no greater than its a-th");
        levels("power 1/2", 0, 0, 1, 1, 3, 1, 4, 2, 8, 2, 9, 3, 399, 19, 400, 20);
        levels("power 1/3", 0, 0, 1, 1, 7, 1, 8, 2, 26, 2, 27, 3, 342, 6, 343, 7, 400, 7);
        levels("power 2/3", 0, 0, 1, 1, 2, 1, 3, 2, 7, 3, 8, 4, 26, 8, 27, 9, 400, 54);
        levels("power 3/2", 0, 0, 1, 1, 2, 2, 3, 5, 4, 8, 5, 11, 400, 8000);
        levels("power 2/1", 0, 0, 1, 1, 2, 4, 10, 100);
        levels("power 1/1", 0, 0, 400, 400);
        levels("power 2/2", 0, 0, 7, 7, 400, 400);
        levels("power 3/3", 0, 0, 7, 7, 400, 400);

        Told.says("II", "line a / b: a times it by b, downwards");
        levels("line 2/3", 0, 0, 1, 0, 2, 1, 3, 2, 4, 2, 5, 3, 400, 266);
        levels("line 1/99", 98, 0, 99, 1, 197, 1, 198, 2, 400, 4);
        levels("line 99/99", 0, 0, 1, 1, 400, 400);
        levels("line 99/98", 97, 97, 98, 99, 400, 404);

        Told.says("II", "floor f: it less f, 0 at least");
        levels("floor 0", 0, 0, 1, 1, 400, 400);
        levels("floor 1", 0, 0, 1, 0, 2, 1);
        levels("floor 399", 0, 0, 398, 0, 399, 0, 400, 1);
    }

    private static void noiseOfASense() {
        LittleMore x = Texts.roomOf("sense a floor 0 noise 7;sense b floor 0 noise 2 0 3;sense c floor 0 noise 9 8 7 6 5 4;sayer p of a;"
            + "sayer q of b;sayer r of c learns 1;sense d floor 0 noise 9 9 9 9 9 9;sayer s of d;sense e floor 0 noise 1 0 0 0 0 1");
        Told.says("II", "NOISE: 0 as often as the first WHOLE of noise, 1 and -1 as often as the second, and so on");
        int[][] often = {{7, 0, 0, 0, 0, 0, 0}, {2, 0, 3, 0, 0, 0, 0}, {9, 8, 7, 6, 5, 4, 0}, {9, 9, 9, 9, 9, 9, 0}, {1, 0, 0, 0, 0, 1, 0}};
        for (int sense = 0; sense < 5; sense++) {
            for (int v = 0; v <= 6; v++) {
                Told.due("noise(" + sense + ", " + v + ")", x.noise(sense, v), often[sense][v]);
                Told.due("noise(" + sense + ", -" + v + ")", x.noise(sense, -v), often[sense][v]);
            }
        }

        Told.says("II", "WHOLE NOISE of a SENSE: all together, W");
        int[] w = {7, 8, 69, 99};
        for (int p = 0; p < 4; p++) Told.due("W of " + p, x.sayer(p, 7), w[p]);

        Told.says("7", "How often a NOISE is there, of all (0 beyond)");
        for (int v : new int[] {6, -6, 7, 100, MAX, MIN}) Told.due("noise(3, " + v + ")", x.noise(3, v), 0);
        x.tell(2, 1, 1, 0, 0, 1);
        Told.due("LEARNED is the SAYER's", x.noise(2, 5), 4);
        Told.unmarked("noise", x, y -> y.noise(2, 5), 4);

        Told.says("7", "NONE for no such SENSE");
        for (int sense : new int[] {-1, 5, 6, MIN, MAX}) Told.unmarked("noise(" + sense + ")", x, y -> y.noise(sense, 0), -1);
        Told.due("even beyond", x.noise(5, 6), -1);

        Told.says("6", "LEVEL; NONE for none such");
        for (int sense : new int[] {-1, 5, 6, MIN, MAX}) Told.unmarked("level(" + sense + ")", x, y -> y.level(sense, 1), -1);
        for (int size : new int[] {-1, 401, MIN, MAX}) Told.unmarked("level at " + size, x, y -> y.level(0, size), -1);
        Told.unmarked("level at 400", x, y -> y.level(4, 400), 400);
        Told.unmarked("level at 0", x, y -> y.level(0, 0), 0);
    }

    private static LittleMore tiring(String habits) {
        return Texts.roomOf("sense s line 1/1 noise 1;sense n line 1/1 noise 3 2 1;sense m line 1/1 noise 5;sayer p of s " + habits
            + ";sayer q of n " + habits + ";sayer r of m " + habits);
    }

    private static void tell(LittleMore x, int p, int times) {
        for (int i = 0; i < times; i++) x.tell(p, 3, 1, 0, 0, 1);
    }

    private static void sayers() {
        Told.says("II", "A SAYER has a LINE and a SECOND (0 if not told), TRIALS in all and since it RESTED");
        LittleMore x = Texts.roomOf("sense s line 1/1 noise 1;sayer a of s;sayer b of s line 50 second 49;sayer c of s line less 50 second less 49;"
            + "sayer d of s second 7;sayer e of s line less 0");
        int[][] told = {{0, 0}, {50, 49}, {-50, -49}, {0, 7}, {0, 0}};
        for (int p = 0; p < 5; p++) {
            Told.due("LINE of " + p, x.sayer(p, 1), told[p][0]);
            Told.due("SECOND of " + p, x.sayer(p, 2), told[p][1]);
            Told.due("TRIALS of " + p, x.sayer(p, 5), 0);
            Told.due("since of " + p, x.sayer(p, 6), 0);
        }

        Told.says("II", "TIRED: TRIALS since it RESTED by tires, downwards (0 without)");
        x = tiring("tires 3");
        int[] tired = {0, 0, 0, 1, 1, 1, 2};
        for (int i = 0; i < tired.length; i++) {
            Told.due("tires 3 after " + i, x.sayer(0, 3), tired[i]);
            tell(x, 0, 1);
        }
        Told.due("another one isn't TIRED by it", x.sayer(1, 3), 0);
        x = tiring("tires 99");
        tell(x, 0, 98);
        Told.due("tires 99 after 98", x.sayer(0, 3), 0);
        tell(x, 0, 1);
        Told.due("tires 99 after 99", x.sayer(0, 3), 1);
        x = tiring("tires 1");
        tell(x, 0, 40);
        Told.due("tires 1 after 40", x.sayer(0, 3), 40);
        x = tiring("");
        tell(x, 0, 100);
        Told.due("without", x.sayer(0, 3), 0);

        Told.says("II", "LEARNED: TRIALS in all by learns, downwards (0 without): so many WHOLES of noise from the last on are left out (the first stays)");
        x = tiring("learns 2");
        int[] out = {0, 0, 1, 1, 2, 2, 2, 2, 2};
        int[] w = {9, 9, 7, 7, 3, 3, 3, 3, 3};
        for (int i = 0; i < out.length; i++) {
            Told.due("learns 2 after " + i, x.sayer(1, 4), out[i]);
            Told.due("W after " + i, x.sayer(1, 7), w[i]);
            tell(x, 1, 1);
        }
        Told.due("another one hasn't LEARNED by it", x.sayer(0, 5), 0);
        x = tiring("learns 1");
        for (int i = 0; i < 4; i++) {
            Told.due("learns 1 after " + i, x.sayer(1, 4), Math.min(i, 2));
            Told.due("W after " + i, x.sayer(1, 7), w[2 * i]);
            Told.due("one WHOLE alone after " + i, x.sayer(2, 4), 0);
            Told.due("its W after " + i, x.sayer(2, 7), 5);
            tell(x, 1, 1);
            tell(x, 2, 1);
        }
        x = tiring("learns 99");
        tell(x, 1, 98);
        Told.due("learns 99 after 98", x.sayer(1, 7), 9);
        tell(x, 1, 1);
        Told.due("learns 99 after 99", x.sayer(1, 7), 7);
        x = tiring("");
        tell(x, 1, 200);
        Told.due("without", x.sayer(1, 4), 0);
        Told.due("W without", x.sayer(1, 7), 9);

        Told.says("8", "Of a SAYER what 0 .. 9");
        x = Texts.roomOf("sense s line 1/1 noise 1;sense n line 1/1 noise 3 2 1;sayer p of s;"
            + "sayer q of n line less 9 second 8 tires 4 learns 7 guess likes 6,5,4,3,2,1;sayer r of n likes 0");
        tell(x, 1, 9);
        x.rest(1);
        tell(x, 1, 5);
        int[][] all = {{0, 0, 0, 0, 0, 0, 0, 1, 0, 0}, {1, -9, 8, 1, 2, 14, 5, 3, 1, 6}, {1, 0, 0, 0, 0, 0, 0, 9, 0, 1}};
        for (int p = 0; p < 3; p++) {
            for (int what = 0; what <= 9; what++) {
                int of = p;
                int asked = what;
                Told.unmarked("sayer(" + p + ", " + what + ")", x, y -> y.sayer(of, asked), all[p][what]);
            }
        }

        Told.says("8", "-1,000 for none such");
        for (int p : new int[] {-1, 3, 6, MIN, MAX}) Told.unmarked("sayer(" + p + ")", x, y -> y.sayer(p, 0), -1000);
        for (int what : new int[] {-1, 10, MIN, MAX}) Told.unmarked("sayer, " + what, x, y -> y.sayer(1, what), -1000);

        Told.says("9", "It RESTS: true; false: 1");
        x = tiring("tires 2 learns 2");
        tell(x, 1, 5);
        tell(x, 0, 4);
        Told.passes("rest", x, y -> y.rest(1) ? 1 : 0, 1);
        int[] rested = {1, 0, 0, 0, 2, 5, 0, 3, 0, 0};
        for (int what = 0; what <= 9; what++) Told.due("what " + what, x.sayer(1, what), rested[what]);
        Told.due("another one doesn't", x.sayer(0, 6), 4);
        Told.passes("rest again", x, y -> y.rest(1) ? 1 : 0, 1);
        tell(x, 1, 2);
        Told.due("TIRED anew", x.sayer(1, 3), 1);
        Told.due("TRIALS in all go on", x.sayer(1, 5), 7);
        for (int p : new int[] {-1, 3, MIN, MAX}) Told.refusedBy("rest(" + p + ")", () -> rowsOf(tiring("tires 1")), y -> y.rest(p), 1);
    }

    private static LittleMore rowsOf(LittleMore x) {
        tell(x, 0, 2);
        x.trial(1, 1, 3, 0, 0);
        return x;
    }

    /** The answer that is given for sure. */
    private static void sure(String call, LittleMore x, int p, int kind, int a, int b, int c, int answer) {
        Told.due(call + ", all", x.odds(p, kind, a, b, c, answer, true), 1);
        for (int other = 0; other <= 400; other += other < 3 ? 1 : 397) {
            Told.due(call + ", " + other, x.odds(p, kind, a, b, c, other, false), other == answer ? 1 : 0);
        }
        Told.due(call, x.odds(p, kind, a, b, c, answer, false), 1);
    }

    private static void pairs() {
        Told.says("II", "PAIR a, b: the FEELING of b and SECOND and TIRED, less that of a: above 0: 1; below: 0; else 2, or 1 if it has guess");
        LittleMore x = Texts.roomOf("sense s line 1/1 noise 1;sayer p of s;sayer g of s guess;sayer u of s second 3 tires 2;sayer v of s second less 3 guess");
        sure("9, 10", x, 0, 0, 9, 10, 0, 1);
        sure("10, 10", x, 0, 0, 10, 10, 0, 2);
        sure("10, 9", x, 0, 0, 10, 9, 0, 0);
        sure("guess 9, 10", x, 1, 0, 9, 10, 0, 1);
        sure("guess 10, 10", x, 1, 0, 10, 10, 0, 1);
        sure("guess 10, 9", x, 1, 0, 10, 9, 0, 0);
        sure("SECOND 3: 10, 8", x, 2, 0, 10, 8, 0, 1);
        sure("SECOND 3: 10, 7", x, 2, 0, 10, 7, 0, 2);
        sure("SECOND 3: 10, 6", x, 2, 0, 10, 6, 0, 0);
        sure("SECOND less 3: 10, 13", x, 3, 0, 10, 13, 0, 1);
        sure("SECOND less 3: 10, 12", x, 3, 0, 10, 12, 0, 0);
        tell(x, 2, 2);
        sure("SECOND 3, TIRED 1: 10, 7", x, 2, 0, 10, 7, 0, 1);
        sure("SECOND 3, TIRED 1: 10, 6", x, 2, 0, 10, 6, 0, 2);
        sure("SECOND 3, TIRED 1: 10, 5", x, 2, 0, 10, 5, 0, 0);
        // of NOISES -1, 0, 1 each the difference is -2 .. 2 by 1, 2, 3, 2, 1
        LittleMore n = Texts.roomOf("sense n line 1/1 noise 1 1;sayer p of n;sayer g of n guess");
        int[][] byLead = {{9, 0, 0}, {8, 0, 1}, {6, 1, 2}, {3, 3, 3}, {1, 6, 2}, {0, 8, 1}, {0, 9, 0}};
        for (int lead = -3; lead <= 3; lead++) {
            for (int answer = 0; answer <= 2; answer++) {
                int due = byLead[lead + 3][answer];
                Told.due("10, 10 and " + lead + ": " + answer, n.odds(0, 0, 10, 10 + lead, 0, answer, false), due);
                int guessed = answer == 2 ? 0 : due + (answer == 1 ? byLead[lead + 3][2] : 0);
                Told.due("guess 10, 10 and " + lead + ": " + answer, n.odds(1, 0, 10, 10 + lead, 0, answer, false), guessed);
            }
        }
    }

    private static void alone() {
        Told.says("II", "ALONE a (0 .. 400): whether the FEELING is above LINE and TIRED: 1, 0");
        LittleMore x = Texts.roomOf("sense s line 1/1 noise 1;sayer p of s;sayer l of s line 5 tires 3;sayer m of s line less 1;sayer n of s line 50 second 50 guess");
        sure("0", x, 0, 1, 0, 0, 0, 0);
        sure("1", x, 0, 1, 1, 0, 0, 1);
        sure("400", x, 0, 1, 400, 0, 0, 1);
        sure("LINE 5: 5", x, 1, 1, 5, 0, 0, 0);
        sure("LINE 5: 6", x, 1, 1, 6, 0, 0, 1);
        sure("LINE less 1: 0", x, 2, 1, 0, 0, 0, 1);
        sure("LINE 50: 50", x, 3, 1, 50, 0, 0, 0);
        sure("LINE 50: 51", x, 3, 1, 51, 0, 0, 1);
        tell(x, 1, 6);
        sure("LINE 5, TIRED 2: 7", x, 1, 1, 7, 0, 0, 0);
        sure("LINE 5, TIRED 2: 8", x, 1, 1, 8, 0, 0, 1);
        LittleMore n = Texts.roomOf("sense n floor 0 noise 3 2 1;sayer p of n line 4;sayer m of n line less 2");
        int[] ones = {0, 1, 3, 6, 8, 9, 9};
        for (int a = 2; a <= 8; a++) {
            Told.due("NOISE 3 2 1, LINE 4, 1 of " + a, n.odds(0, 1, a, 0, 0, 1, false), ones[a - 2]);
            Told.due("NOISE 3 2 1, LINE 4, 0 of " + a, n.odds(0, 1, a, 0, 0, 0, false), 9 - ones[a - 2]);
        }
        Told.due("a FEELING may be below 0: 1 of 0", n.odds(1, 1, 0, 0, 0, 1, false), 8);
    }

    private static void odd() {
        Told.says("II", "ODD a, b, c (0 .. 2): three FEELINGS of a, but at place c of b: the place where twice its own less the other two is greatest, "
            + "without sign; of like ones the least");
        LittleMore x = Texts.roomOf("sense s line 1/1 noise 1;sayer p of s line 9 second 9 tires 1 guess likes 7");
        for (int c = 0; c <= 2; c++) {
            sure("10, 20 at " + c, x, 0, 2, 10, 20, c, c);
            sure("20, 10 at " + c, x, 0, 2, 20, 10, c, c);
            sure("10, 11 at " + c, x, 0, 2, 10, 11, c, c);
            sure("10, 10 at " + c, x, 0, 2, 10, 10, c, 0);
        }
        // of 27 NOISES 3 are like ones (place 0), 18 have one place off (6 each), 6 have all unlike: those with -1 and 1 are
        // equally far, the least of their places is 0 by 4 of them and 1 by 2.
        LittleMore n = Texts.roomOf("sense n line 1/1 noise 1 1;sayer p of n");
        int[] like = {13, 8, 6};
        for (int c = 0; c <= 2; c++) {
            for (int place = 0; place <= 2; place++) Told.due("10, 10 at " + c + ": " + place, n.odds(0, 2, 10, 10, c, place, false), like[place]);
        }
        // b is 2 more: all 27 one by one
        for (int c = 0; c <= 2; c++) {
            int[] counted = new int[3];
            for (int i = 0; i < 27; i++) {
                int[] f = {10 + i % 3 - 1, 10 + i / 3 % 3 - 1, 10 + i / 9 - 1};
                f[c] += 2;
                int best = 0;
                for (int j = 1; j < 3; j++) if (off(f, j) > off(f, best)) best = j;
                counted[best]++;
            }
            for (int place = 0; place <= 2; place++) {
                Told.due("10, 12 at " + c + ": " + place, n.odds(0, 2, 10, 12, c, place, false), counted[place]);
            }
        }
    }

    private static int off(int[] f, int at) {
        return Math.abs(2 * f[at] - f[(at + 1) % 3] - f[(at + 2) % 3]);
    }

    private static void numbers() {
        Told.says("II", "NUMBER a: the FEELING, 0 at least");
        LittleMore x = Texts.roomOf("sense f floor 5 noise 3 2 1;sayer p of f line 9 second 9 tires 1 guess;sense s line 1/1 noise 1;"
            + "sayer l of s likes 10,4,20;sayer o of s likes 0,999;sayer n of f likes 1,2;sayer m of s likes 7");
        int[] at0 = {6, 2, 1, 0};
        int[] at1 = {3, 3, 2, 1};
        for (int v = 0; v <= 3; v++) {
            Told.due("LEVEL 0: " + v, x.odds(0, 3, 5, 0, 0, v, false), at0[v]);
            Told.due("LEVEL 1: " + v, x.odds(0, 3, 6, 0, 0, v, false), at1[v]);
        }
        for (int v : new int[] {-1, -2, -3, MIN, MAX}) Told.due("LEVEL 0: " + v, x.odds(0, 3, 5, 0, 0, v, false), 0);
        Told.due("LEVEL 395: 397", x.odds(0, 3, 400, 0, 0, 397, false), 1);

        Told.says("II", "if it likes numbers the nearest of them, of two the lesser");
        int[][] near = {{1, 4}, {4, 4}, {6, 4}, {7, 4}, {8, 10}, {10, 10}, {14, 10}, {15, 10}, {16, 20}, {400, 20}};
        for (int[] one : near) Told.due("likes 10, 4, 20: " + one[0], x.odds(1, 3, one[0], 0, 0, one[1], false), 1);
        Told.due("likes 0, 999: 400", x.odds(2, 3, 400, 0, 0, 0, false), 1);
        Told.due("likes 1, 2: below 0 is 1", x.odds(3, 3, 1, 0, 0, 1, false), 8);
        Told.due("likes 1, 2: 2", x.odds(3, 3, 1, 0, 0, 2, false), 1);
        Told.due("likes 1, 2: no 0", x.odds(3, 3, 1, 0, 0, 0, false), 0);
        Told.due("likes 7 alone: 1", x.odds(4, 3, 1, 0, 0, 7, false), 1);
        Told.due("likes 7 alone: 400", x.odds(4, 3, 400, 0, 0, 7, false), 1);
        LittleMore y = Texts.roomOf("sense s line 99/1 noise 1;sayer o of s likes 0,999;sayer p of s likes 999,0,500,498,502,501");
        Told.due("likes 0, 999: 495 is nearer to 0", y.odds(0, 3, 5, 0, 0, 0, false), 1);
        Told.due("likes 0, 999: 594", y.odds(0, 3, 6, 0, 0, 999, false), 1);
        Told.due("six: 495", y.odds(1, 3, 5, 0, 0, 498, false), 1);
        Told.due("six: 594", y.odds(1, 3, 6, 0, 0, 502, false), 1);
        LittleMore z = Texts.roomOf("sense s line 1/1 noise 1;sayer a of s likes 3,5;sayer b of s likes 5,3;sayer c of s likes 9,5,3,1;sayer d of s likes 1,9,3,5");
        for (int p = 0; p < 4; p++) Told.due("3 and 5 in any order: 4", z.odds(p, 3, 4, 0, 0, 3, false), 1);
    }

    private static void matches() {
        Told.says("II", "MATCH a, b (a SENSE): the least size 1 .. 400 at which b's LEVEL is nearest to the FEELING");
        LittleMore x = Texts.roomOf("sense s line 1/1 noise 1;sense d line 2/1 noise 9 9 9;sense h line 1/2 noise 1;sense f floor 399 noise 1;"
            + "sense n floor 9 noise 3 2 1;sayer p of s line 9 second 9 tires 1 guess likes 7;sayer q of d;sayer r of n");
        int[][] due = {{5, 0, 5}, {400, 0, 400}, {1, 1, 1}, {5, 1, 2}, {6, 1, 3}, {7, 1, 3}, {400, 1, 200}, {1, 2, 2}, {10, 2, 20}, {200, 2, 400},
            {300, 2, 400}, {1, 3, 400}, {9, 3, 400}};
        for (int[] one : due) Told.due("MATCH " + one[0] + ", " + one[1], x.odds(0, 4, one[0], one[1], 0, one[2], false), 1);
        LittleMore flat = Texts.roomOf("sense s line 1/1 noise 1;sense c power 3/1 then power 1/3 noise 1;sayer p of s");
        Told.due("of like ones far below the least", flat.odds(0, 4, 400, 1, 0, 21, false), 1);
        Told.due("of like ones nearest", flat.odds(0, 4, 21, 1, 0, 21, false), 1);
        Told.due("the FEELING isn't 0 at least: -1 and 0 are nearest to 0, 1 to the last", x.odds(2, 4, 9, 3, 0, 1, false), 6);
        Told.due("1 and 2", x.odds(2, 4, 9, 3, 0, 400, false), 3);
        Told.due("never 0", x.odds(2, 4, 9, 3, 0, 0, false), 0);
        Told.due("-1 is nearer to 1 than to 2", x.odds(2, 4, 9, 0, 0, 1, false), 8);
        Told.due("W is of the SAYER's SENSE", x.odds(0, 4, 5, 1, 0, 0, true), 1);
        Told.due("W of d", x.odds(1, 4, 5, 0, 0, 0, true), 45);
    }

    private static void known() {
        Told.says("II", "KNOWN a, b, c (0, 1: it is told that it's this one): as PAIR, but c, unless the difference is against it by more than 2 (then the other one)");
        LittleMore x = Texts.roomOf("sense s line 1/1 noise 1;sayer p of s line 9 guess;sayer u of s second 3 tires 1;sayer n of s");
        for (int p = 0; p <= 2; p += 2) {
            for (int lead = -5; lead <= 5; lead++) {
                sure("told 0, " + lead, x, p, 5, 10, 10 + lead, 0, lead > 2 ? 1 : 0);
                sure("told 1, " + lead, x, p, 5, 10, 10 + lead, 1, lead < -2 ? 0 : 1);
            }
        }
        LittleMore y = Texts.roomOf("sense s line 1/1 noise 1;sayer u of s second 3 tires 1");
        sure("SECOND 3, told 0, -1", y, 0, 5, 10, 9, 0, 0);
        sure("SECOND 3, told 0, 0", y, 0, 5, 10, 10, 0, 1);
        sure("SECOND 3, told 1, -5", y, 0, 5, 10, 5, 1, 1);
        sure("SECOND 3, told 1, -6", y, 0, 5, 10, 4, 1, 0);
        tell(y, 0, 2);
        sure("SECOND 3, TIRED 2, told 0, -3", y, 0, 5, 10, 7, 0, 0);
        sure("SECOND 3, TIRED 2, told 0, -2", y, 0, 5, 10, 8, 0, 1);
        sure("SECOND 3, TIRED 2, told 1, -7", y, 0, 5, 10, 3, 1, 1);
        sure("SECOND 3, TIRED 2, told 1, -8", y, 0, 5, 10, 2, 1, 0);
    }

    private static LittleMore asked() {
        LittleMore x = Texts.roomOf("sense s line 1/1 noise 2 1;sense t line 1/2 noise 1;sayer p of s line 3;sayer q of t");
        x.trial(0, 1, 3, 0, 0);
        x.tell(1, 3, 9, 0, 0, 8);
        return x;
    }

    private static void no(int p, int kind, int a, int b, int c, int trouble) {
        String call = p + ", " + kind + ", " + a + ", " + b + ", " + c;
        Told.refused("odds(" + call + ")", EdgesOfSensesTest::asked, x -> x.odds(p, kind, a, b, c, 0, false), -1, trouble);
        Told.refused("odds(" + call + ", whole)", EdgesOfSensesTest::asked, x -> x.odds(p, kind, a, b, c, 0, true), -1, trouble);
        Told.refused("trial(" + call + ")", EdgesOfSensesTest::asked, x -> x.trial(p, kind, a, b, c), -1, trouble);
        Told.refused("tell(" + call + ")", EdgesOfSensesTest::asked, x -> x.tell(p, kind, a, b, c, 0), -1, trouble);
        Told.refused("count(" + call + ")", EdgesOfSensesTest::asked, x -> x.count(p, kind, a, b, c, 0), -1, trouble);
        Told.refused("count(" + call + ", NONE)", EdgesOfSensesTest::asked, x -> x.count(p, kind, a, b, c, -1), -1, trouble);
    }

    private static void yes(int p, int kind, int a, int b, int c) {
        String call = p + ", " + kind + ", " + a + ", " + b + ", " + c;
        Told.due("odds(" + call + ")", asked().odds(p, kind, a, b, c, 0, false) >= 0, true);
        Told.passes("count(" + call + ")", asked(), x -> x.count(p, kind, a, b, c, 7), 0);
        Told.passes("tell(" + call + ")", asked(), x -> x.tell(p, kind, a, b, c, 1), 3);
        LittleMore x = asked();
        x.rest(-1);
        Told.due("trial(" + call + ")", x.trial(p, kind, a, b, c) >= 0, true);
        Told.due("trial(" + call + "), trouble", x.trouble(), 0);
    }

    private static void sizesOfTrials() {
        int[] out = {-1, 0, 401, 402, MIN, MAX};
        int[] far = {-1, 0, 401, MIN, MAX};
        Told.says("II", "TRIALS, by kinds (sizes 1 .. 400 but where told)");
        for (int kind = 0; kind <= 5; kind++) {
            int b = kind == 4 ? 1 : 7;
            for (int a : out) if (kind != 1 || a != 0) no(0, kind, a, b, 1, 2);
            yes(0, kind, 1, b, 1);
            yes(0, kind, 400, b, 1);
            if (kind == 0 || kind == 2 || kind == 5) {
                for (int other : out) no(0, kind, 7, other, 1, 2);
                yes(0, kind, 7, 1, 1);
                yes(0, kind, 7, 400, 1);
            }
        }
        Told.says("II", "ALONE a (0 .. 400)");
        yes(0, 1, 0, 0, 0);
        yes(1, 1, 400, 0, 0);

        Told.says("II", "ODD a, b, c (0 .. 2)");
        for (int c : new int[] {-1, 3, MIN, MAX}) no(0, 2, 7, 8, c, 2);
        for (int c = 0; c <= 2; c++) yes(0, 2, 7, 8, c);

        Told.says("II", "KNOWN a, b, c (0, 1: ..)");
        for (int c : new int[] {-1, 2, 3, MIN, MAX}) no(0, 5, 7, 8, c, 2);
        for (int c = 0; c <= 1; c++) yes(0, 5, 7, 8, c);

        Told.says("II", "what isn't named is of no matter");
        for (int v : far) {
            yes(0, 0, 7, 8, v);
            yes(0, 1, 7, v, v);
            yes(0, 3, 7, v, v);
            yes(0, 4, 7, 1, v);
            Told.due("ALONE 3", asked().odds(0, 1, 3, v, v, 1, false), 1);
            Told.due("NUMBER 3", asked().odds(0, 3, 3, v, v, 3, false), 2);
            Told.due("PAIR 3, 4", asked().odds(0, 0, 3, 4, v, 1, false), 11);
            Told.due("MATCH 3, 1", asked().odds(0, 4, 3, 1, v, 6, false), 2);
        }

        Told.says("10", "NONE: 1 (SAYER, kind; SENSE of MATCH)");
        for (int p : new int[] {-1, 2, 6, MIN, MAX}) for (int kind = 0; kind <= 5; kind++) no(p, kind, 1, 1, 0, 1);
        for (int kind : new int[] {-1, 6, MIN, MAX}) no(0, kind, 1, 1, 0, 1);
        for (int b : new int[] {-1, 2, 6, MIN, MAX}) no(0, 4, 1, b, 0, 1);
        yes(0, 4, 1, 0, 0);
        yes(0, 4, 1, 1, 0);

        Told.says("10", "NONE: 1 ..; 2 (a size, c): what is 1 is looked at first");
        no(2, 0, 0, 0, 9, 1);
        no(0, 6, 0, 0, 9, 1);
        no(0, 4, 0, 2, 0, 1);
        no(0, 4, 401, -1, 0, 1);
    }

    private static void odds() {
        Told.says("II", "WHOLE: how many there are (W to as many as there are FEELINGS)");
        int[] feelings = {2, 1, 3, 1, 1, 2};
        LittleMore x = Texts.roomOf("sense s line 1/1 noise 9 9 9 9 9 9;sense t line 1/1 noise 1;sayer p of s;sayer q of t;sayer r of s learns 1");
        for (int i = 0; i < 4; i++) x.tell(2, 3, 1, 0, 0, 0);
        int[] w = {99, 1, 27};
        for (int p = 0; p < 3; p++) {
            for (int kind = 0; kind <= 5; kind++) {
                long whole = 1;
                for (int i = 0; i < feelings[kind]; i++) whole *= w[p];
                long due = whole;
                int of = p;
                int asked = kind;
                Told.passes("WHOLE of " + p + ", " + kind, x, y -> y.odds(of, asked, 100, 1, 1, 7, true), due);
            }
        }
        Told.due("WHOLE, whatever the answer", x.odds(0, 0, 100, 1, 1, MIN, true), 9801);

        Told.says("II", "ODDS of an answer: of all NOISES of its FEELINGS how many bring it");
        for (int kind = 0; kind <= 5; kind++) {
            long sum = 0;
            for (int answer = 0; answer <= 16; answer++) sum += x.odds(0, kind, 10, kind == 4 ? 1 : 11, 1, answer, false);
            Told.due("all answers of kind " + kind, sum, x.odds(0, kind, 10, kind == 4 ? 1 : 11, 1, 0, true));
        }
        Told.due("PAIR like, 2", x.odds(0, 0, 10, 10, 0, 2, false), 11 * 81);
        Told.due("PAIR like, 1", x.odds(0, 0, 10, 10, 0, 1, false), 55 * 81);
        Told.due("PAIR widest", x.odds(0, 0, 10, 20, 0, 2, false), 81);
        Told.due("PAIR just wider", x.odds(0, 0, 10, 21, 0, 2, false), 0);
        Told.due("ALONE widest", x.odds(0, 1, 5, 0, 0, 0, false), 9);
        Told.due("ALONE just wider", x.odds(0, 1, 6, 0, 0, 0, false), 0);
        Told.due("NUMBER widest", x.odds(0, 3, 5, 0, 0, 10, false), 9);
        Told.due("NUMBER just wider", x.odds(0, 3, 5, 0, 0, 11, false), 0);

        Told.says("10", "ODDS of an answer as the SAYER is now");
        LittleMore y = Texts.roomOf("sense s line 1/1 noise 1 1;sayer p of s line 3 tires 2 learns 3");
        int[] ones = {2, 2, 1, 0, 0, 0};
        int[] whole = {3, 3, 3, 1, 1, 1};
        for (int i = 0; i < 6; i++) {
            Told.due("after " + i, y.odds(0, 1, 4, 0, 0, 1, false), ones[i]);
            Told.due("WHOLE after " + i, y.odds(0, 1, 4, 0, 0, 1, true), whole[i]);
            y.tell(0, 3, 1, 0, 0, 0);
        }
        y.rest(0);
        Told.due("RESTED", y.odds(0, 1, 4, 0, 0, 1, false), 1);

        Told.says("10", "(0 for one that can't be)");
        for (int answer : new int[] {-1, 3, 4, MIN, MAX}) Told.passes("PAIR, " + answer, asked(), z -> z.odds(0, 0, 5, 5, 0, answer, false), 0);
        for (int answer : new int[] {-1, 2, MIN, MAX}) Told.passes("ALONE, " + answer, asked(), z -> z.odds(0, 1, 5, 5, 0, answer, false), 0);
        for (int answer : new int[] {-1, 3, MIN, MAX}) Told.passes("ODD, " + answer, asked(), z -> z.odds(0, 2, 5, 5, 0, answer, false), 0);
        for (int answer : new int[] {-1, 3, 7, MIN, MAX}) Told.passes("NUMBER, " + answer, asked(), z -> z.odds(0, 3, 5, 5, 0, answer, false), 0);
        for (int answer : new int[] {-1, 0, 401, MIN, MAX}) Told.passes("MATCH, " + answer, asked(), z -> z.odds(0, 4, 5, 1, 0, answer, false), 0);
        for (int answer : new int[] {-1, 2, MIN, MAX}) Told.passes("KNOWN, " + answer, asked(), z -> z.odds(0, 5, 5, 5, 0, answer, false), 0);
        String before = Told.state(asked());
        LittleMore z = asked();
        z.odds(0, 2, 5, 5, 0, 1, false);
        Told.says("10", "nothing is drawn by it");
        Told.due("state", Told.state(z).equals(before), true);
    }

    public static void main(String[] args) {
        levelOfASense();
        noiseOfASense();
        sayers();
        pairs();
        alone();
        odd();
        numbers();
        matches();
        known();
        sizesOfTrials();
        odds();
        Told.end();
    }
}
