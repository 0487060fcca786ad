/** Terms III, SPAN to FITS, and promises 18 to 24, sentence by sentence. */
public final class EdgesOfJudgingTest {
    private static final int MIN = Integer.MIN_VALUE;
    private static final int MAX = Integer.MAX_VALUE;

    private static void span(int n, int x, int y, int least, int most) {
        LittleMore one = new LittleMore();
        String call = "span(" + n + ", " + x + ", " + y + ")";
        Told.passes(call + ", least", one, z -> z.span(n, x, y, false), least);
        Told.passes(call + ", most", one, z -> z.span(n, x, y, true), most);
    }

    private static void spans() {
        Told.says("III", "SPAN of n with odds x of y: all counts k of n such that k or fewer, and k or more, have odds of a fortieth at least, each");
        span(1, 1, 40, 0, 1);
        span(1, 1, 41, 0, 0);
        span(1, 39, 40, 0, 1);
        span(1, 40, 41, 1, 1);
        span(1, 250, 10000, 0, 1);
        span(1, 249, 10000, 0, 0);
        span(1, 9750, 10000, 0, 1);
        span(1, 9751, 10000, 1, 1);
        span(1, 1, 2, 0, 1);
        // both of 2: a sixth twice is a 36th, a seventh twice a 49th
        span(2, 1, 6, 0, 2);
        span(2, 1, 7, 0, 1);
        span(2, 5, 6, 0, 2);
        span(2, 6, 7, 1, 2);
        // one or two of 2: 0.9875 twice is 0.97516, 0.9874 twice 0.97496
        span(2, 125, 10000, 0, 0);
        span(2, 126, 10000, 0, 1);
        // none of 40: 0.912 to the 40th is 0.0251, 0.9119 to the 40th 0.02499
        span(40, 880, 10000, 0, 7);
        span(40, 881, 10000, 1, 7);
        span(40, 9120, 10000, 33, 40);
        span(40, 9119, 10000, 33, 39);
        // of 2 to the 10th 1024: 1 + 10 = 11 are less than a fortieth, 11 + 45 more; of 2 to the 40th 13 and fewer have 1 in 52
        span(10, 1, 2, 2, 8);
        span(40, 1, 2, 14, 26);
        span(40, 5000, 10000, 14, 26);
        // a fortieth to the last one: 5 of 6 and 1 of 6 have 1 in 6 and more, all 6 of 6 by a half have 1 in 64
        span(6, 1, 2, 1, 5);
        span(5, 1, 2, 0, 5);

        Told.says("III", "SPAN: odds of 0, or of all");
        for (int n : new int[] {1, 2, 39, 40}) {
            span(n, 0, 1, 0, 0);
            span(n, 0, 10000, 0, 0);
            span(n, 1, 1, n, n);
            span(n, 10000, 10000, n, n);
        }
        span(40, 1, 10000, 0, 0);
        span(40, 9999, 10000, 40, 40);

        Told.says("18", "The least (or greatest) count of SPAN: of all n, by big numbers");
        LittleMore x = new LittleMore();
        int asked = 0;
        for (int n = 1; n <= 40; n++) {
            for (int y : new int[] {1, 2, 3, 7, 9, 40, 99, 121, 9801, 9999, 10000}) {
                for (int part : new int[] {0, 1, y / 40, y / 7, y / 3, y / 2, y - y / 5, y - 1, y}) {
                    if (asked++ % 200 == 0) x = new LittleMore();
                    int[] due = Plain.span(n, part, y);
                    Told.due("span(" + n + ", " + part + ", " + y + ")", x.span(n, part, y, false), due[0]);
                    Told.due("span(" + n + ", " + part + ", " + y + ", most)", x.span(n, part, y, true), due[1]);
                }
            }
        }

        Told.says("18", "NONE: 2 (n 1 .. 40, y 1 .. 10,000, x 0 .. y)");
        for (int v : new int[] {-1, 0, 41, MIN, MAX}) Told.refused("n " + v, LittleMore::new, z -> z.span(v, 1, 2, true), -1, 2);
        for (int v : new int[] {-1, 0, 10001, MIN, MAX}) Told.refused("y " + v, LittleMore::new, z -> z.span(1, 0, v, false), -1, 2);
        for (int v : new int[] {-1, 8, MIN, MAX}) Told.refused("x " + v, LittleMore::new, z -> z.span(1, v, 7, true), -1, 2);
        Told.refused("x 10,001 of 10,000", LittleMore::new, z -> z.span(1, 10001, 10000, true), -1, 2);
    }

    /** NOISES of -1, 0, 1 once each: by a LINE at its LEVEL 1 has a third, of like ones each answer of PAIR has a third. Of 40 the SPAN is 8 .. 19. */
    private static final String THIRDS = "sense n line 1/1 noise 1 1;sense s line 1/1 noise 1;sayer p of n line 20 second 9 tires 1 learns 1;"
        + "sayer q of s;sayer g of n guess";

    private static LittleMore thirds() {
        return Texts.roomOf(THIRDS);
    }

    /** How often each answer is told of a CELL: first of 0, and so on. */
    private static LittleMore told(int p, int kind, int a, int b, int... times) {
        return told(thirds(), p, kind, a, b, times);
    }

    private static LittleMore told(LittleMore x, int p, int kind, int a, int b, int... times) {
        for (int answer = 0; answer < times.length; answer++) {
            for (int i = 0; i < times[answer]; i++) x.tell(p, kind, a, b, 0, answer);
        }
        return x;
    }

    private static void letsWords() {
        Told.says("III", "LET: a SENSE with a LINE lets a SAYER's CELLS of ALONE if of each CELL the count of each answer that can be given is in its SPAN");
        int[][] ones = {{7, 0}, {8, 1}, {13, 1}, {19, 1}, {20, 0}, {0, 0}, {40, 0}};
        for (int[] one : ones) Told.passes("ALONE, " + one[0] + " of 40", told(0, 1, 9, 0, 40 - one[0], one[0]), x -> x.lets(0, 0, 9, 0), one[1]);

        Told.says("III", "with a SECOND those of PAIR, if of each CELL the count of each answer that can be given is in its SPAN");
        int[][] pairs = {{16, 16, 8, 1}, {17, 16, 7, 0}, {16, 8, 16, 1}, {16, 7, 17, 0}, {8, 16, 16, 1}, {7, 17, 16, 0}, {19, 10, 11, 1}, {20, 10, 10, 0},
            {10, 19, 11, 1}, {10, 20, 10, 0}, {10, 11, 19, 1}, {10, 10, 20, 0}, {13, 13, 14, 1}};
        for (int[] t : pairs) {
            Told.passes("PAIR, " + t[0] + ", " + t[1] + ", " + t[2], told(0, 0, 9, 9, t[0], t[1], t[2]), x -> x.lets(0, 0, 50, 0), t[3]);
            Told.passes("PAIR by SECOND 3, " + t[0] + ", " + t[1] + ", " + t[2], told(0, 0, 9, 6, t[0], t[1], t[2]), x -> x.lets(0, 0, -50, 3), t[3]);
        }

        Told.says("III", "LET: (guess as the SAYER's)");
        int[][] guessed = {{20, 20, 0}, {19, 21, 1}, {8, 32, 1}, {7, 33, 0}};
        for (int[] t : guessed) Told.passes("guess, " + t[0] + ", " + t[1], told(2, 0, 9, 9, t[0], t[1]), x -> x.lets(2, 0, 0, 0), t[2]);

        LittleMore two = Texts.roomOf("sense s line 1/1 noise 1;sense t line 1/1 noise 1;sayer p of s;sayer g of s guess");
        for (int p = 0; p <= 1; p++) two.tell(p, 0, 9, 9, 0, p == 0 ? 2 : 1);
        for (int sense = 0; sense <= 1; sense++) {
            int s = sense;
            Told.passes("without guess by SENSE " + sense, two, x -> x.lets(0, s, 0, 0), 1);
            Told.passes("without guess by SENSE " + sense + ", SECONDS", two, x -> x.secondOf(0, s, true), 0);
            Told.passes("with guess by SENSE " + sense, two, x -> x.lets(1, s, 0, 0), 1);
            Told.passes("with guess by SENSE " + sense + ", SECONDS", two, x -> x.secondOf(1, s, false), 0);
        }
        Told.passes("without guess, fits", two, x -> x.fits(0), 2 * 21);
        Told.passes("with guess, fits", two, x -> x.fits(1), 2 * 21 * 6);

        Told.says("III", "the count of each answer that can be given: a 2 that was told of one who has guess can't be");
        int[][] twos = {{19, 21, 0, 1}, {13, 21, 6, 1}, {8, 21, 11, 1}, {7, 21, 12, 0}, {13, 20, 7, 0}, {8, 32, 0, 1}};
        for (int[] t : twos) Told.passes("guess, " + t[0] + ", " + t[1] + ", " + t[2], told(2, 0, 9, 9, t[0], t[1], t[2]), x -> x.lets(2, 0, 0, 0), t[3]);
        Told.passes("one 2 of one TRIAL", told(2, 0, 9, 9, 0, 0, 1), x -> x.lets(2, 0, 0, 0), 1);
        Told.passes("without guess, where a 2 has no odds", told(0, 0, 9, 99, 0, 0, 1), x -> x.lets(0, 0, 0, 0), 0);

        Told.says("III", "if of each CELL");
        for (int bad = 0; bad <= 6; bad++) {
            LittleMore x = thirds();
            for (int i = 0; i < 3; i++) {
                told(x, 0, 1, 30 + i, 0, i == bad ? 1 : 0, i == bad ? 0 : 1);
                told(x, 0, 0, 30, 40 + i, i + 3 == bad ? 1 : 0, i + 3 == bad ? 0 : 1);
            }
            Told.passes("of three and three the bad one is " + bad, x, y -> y.lets(0, 0, 9, 0), bad == 6 ? 1 : 0);
        }
        LittleMore x = told(0, 1, 9, 0, 1, 0);
        told(x, 0, 0, 9, 20, 0, 1);
        Told.passes("LINE and SECOND let", x, y -> y.lets(0, 1, 9, 0), 1);
        Told.passes("LINE doesn't", x, y -> y.lets(0, 1, 8, 0), 0);
        Told.passes("SECOND doesn't", x, y -> y.lets(0, 1, 9, -11), 0);
        Told.passes("SECOND just lets", x, y -> y.lets(0, 1, 9, -10), 1);
        Told.passes("neither does", x, y -> y.lets(0, 1, 8, -11), 0);

        Told.says("III", "a SAYER's CELLS of ALONE .. those of PAIR: no others'");
        Told.passes("another SAYER has none", x, y -> y.lets(1, 1, -50, -50), 1);
        for (int kind = 2; kind <= 5; kind++) {
            LittleMore z = told(0, kind, 30, 1, 1, 1);
            Told.passes("kind " + kind, z, y -> y.lets(0, 1, 50, 50), 1);
        }
        Told.passes("no CELLS at all", thirds(), y -> y.lets(0, 0, 0, 0), 1);

        Told.says("III", "by FRESH ODDS");
        x = told(0, 1, 9, 0, 27, 13);
        Told.due("TIRED", x.sayer(0, 3), 40);
        Told.due("LEARNED", x.sayer(0, 4), 1);
        Told.passes("as if it were FRESH", x, y -> y.lets(0, 0, 9, 0), 1);
        Told.passes("by a SENSE that isn't its own", x, y -> y.lets(0, 1, 9, 0), 0);
        Told.due("its own LINE and SECOND are others", x.sayer(0, 1), 20);
    }

    /** A CELL of so many TRIALS of a kind; of ALONE 30 says 1, of PAIR 1, 30 too. */
    private static LittleMore cell(int kind, int trials) {
        return told(0, kind, kind == 0 ? 1 : 30, kind == 4 ? 1 : 30, 0, trials);
    }

    private static void overfull() {
        Told.says("19", "NONE: 3 (a CELL of PAIR or ALONE has more than 40)");
        for (int kind = 0; kind <= 1; kind++) {
            int k = kind;
            LittleMore x = cell(kind, 40);
            Told.passes("lets by 40 of " + kind, x, y -> y.lets(0, 0, 0, 0), 1);
            Told.passes("fits by 40 of " + kind, x, y -> y.fits(0), 2 * 231);
            Told.passes("fitAt by 40 of " + kind, x, y -> y.fitAt(0, 0, 1), -10);
            Told.passes("verdict by 40 of " + kind, x, y -> y.verdict(0, 0), 1);
            Told.passes("lineOf by 40 of " + kind, x, y -> y.lineOf(0, 0, false), -50);
            Told.passes("secondOf by 40 of " + kind, x, y -> y.secondOf(0, 0, true), 50);
            for (int trials = 41; trials <= 42; trials++) {
                int n = trials;
                Told.refused("lets by " + n + " of " + kind, () -> cell(k, n), y -> y.lets(0, 0, 0, 0), -1, 3);
                Told.refused("fits by " + n + " of " + kind, () -> cell(k, n), y -> y.fits(0), -1, 3);
                Told.refused("fitAt by " + n + " of " + kind, () -> cell(k, n), y -> y.fitAt(0, 0, 0), -1000, 3);
                Told.refused("verdict by " + n + " of " + kind, () -> cell(k, n), y -> y.verdict(0, 0), -1, 3);
                Told.refused("lineOf by " + n + " of " + kind, () -> cell(k, n), y -> y.lineOf(0, 0, true), -1000, 3);
                Told.refused("secondOf by " + n + " of " + kind, () -> cell(k, n), y -> y.secondOf(0, 0, true), -1000, 3);
            }
        }
        for (int kind = 0; kind <= 1; kind++) {
            LittleMore x = told(1, kind, kind == 0 ? 1 : 30, 30, 0, 41);
            for (int sense = 0; sense <= 1; sense++) {
                int s = sense;
                Told.passes("another SAYER's lets by " + sense, x, y -> y.lets(0, s, 0, 0), 1);
                Told.passes("another SAYER's verdict of " + sense, x, y -> y.verdict(0, s), 1);
                Told.passes("another SAYER's lineOf by " + sense, x, y -> y.lineOf(0, s, true), 50);
                Told.passes("another SAYER's secondOf by " + sense, x, y -> y.secondOf(0, s, true), 50);
                Told.due("its own lets by " + sense, x.lets(1, s, 0, 0), -1);
                Told.due("its own verdict of " + sense, x.verdict(1, s), -1);
                Told.due("its own lineOf by " + sense, x.lineOf(1, s, true), -1000);
                Told.due("its own secondOf by " + sense, x.secondOf(1, s, true), -1000);
                Told.due("its own TROUBLE", x.trouble(), 3);
            }
            Told.passes("another SAYER's fits", x, y -> y.fits(0), 2 * 231);
            Told.passes("another SAYER's fitAt", x, y -> y.fitAt(0, 461, 0), 1);
        }
        for (int kind = 2; kind <= 5; kind++) Told.passes("41 of kind " + kind, cell(kind, 41), y -> y.lets(0, 0, 0, 0), 1);
        Told.passes("41 of another SAYER", cell(1, 41), y -> y.lets(1, 0, 0, 0), 1);
        LittleMore x = cell(1, 40);
        told(x, 0, 1, 31, 0, 0, 40);
        told(x, 0, 0, 1, 31, 0, 40);
        told(x, 0, 0, 1, 30, 0, 40);
        Told.passes("40 each of four CELLS", x, y -> y.lets(0, 0, 0, 0), 1);
        x.tell(0, 1, 30, 0, 0, 1);
        Told.due("the first of them", x.lets(0, 0, 0, 0), -1);
        x = cell(1, 1);
        told(x, 0, 1, 31, 0, 0, 41);
        Told.due("the second of two", x.lets(0, 0, 0, 0), -1);
        x = thirds();
        told(x, 2, 0, 9, 9, 14, 0, 27);
        Told.due("a 2 that can't be given counts as a TRIAL", x.lets(2, 0, 0, 0), -1);
        x.clear();
        Told.passes("once THE BOOK is empty", x, y -> y.lets(2, 0, 0, 0), 1);
        for (int before = 0; before <= 2; before++) {
            for (int answer = 0; answer <= 2; answer++) {
                x = told(1, 0, 9, 9, before == 0 ? 3 : 0, before == 1 ? 3 : 0, before == 2 ? 3 : 0);
                x.clear();
                x.tell(1, 0, 9, 9, 0, answer);
                Told.due("counted anew: " + before + ", then " + answer, x.secondOf(1, 1, answer == 0), answer == 0 ? -1 : answer == 1 ? 1 : 0);
            }
        }
        LittleMore drawn = Texts.roomOf("sense s line 1/1 noise 1;sayer p of s;plan u up 7 to 7 by 1 times 20");
        drawn.run(0, 0);
        drawn.run(0, 0);
        Told.passes("40 that were drawn", drawn, y -> y.lets(0, 0, 6, 0), 1);
        drawn.trial(0, 1, 7, 0, 0);
        Told.due("41 that were drawn", drawn.lets(0, 0, 6, 0), -1);
    }

    private static void letsNumbers() {
        Told.says("19", "LINE and SECOND (-50 .. 50)");
        for (int v : new int[] {-50, -49, 0, 49, 50}) {
            Told.passes("LINE " + v, thirds(), x -> x.lets(0, 0, v, 0), 1);
            Told.passes("SECOND " + v, thirds(), x -> x.lets(0, 0, 0, v), 1);
        }
        LittleMore far = told(1, 1, 50, 0, 1);
        told(far, 1, 1, 51, 0, 0, 1);
        told(far, 1, 0, 60, 10, 0, 0, 1);
        Told.passes("LINE 50, SECOND 50", far, x -> x.lets(1, 1, 50, 50), 1);
        Told.passes("LINE 49, SECOND 50", far, x -> x.lets(1, 1, 49, 50), 0);
        Told.passes("LINE 50, SECOND 49", far, x -> x.lets(1, 1, 50, 49), 0);

        Told.says("19", "NONE: 1; 2; 3");
        for (int v : new int[] {-1, 3, MIN, MAX}) Told.refused("lets(" + v + ")", () -> cell(1, 3), x -> x.lets(v, 0, 0, 0), -1, 1);
        for (int v : new int[] {-1, 2, MIN, MAX}) Told.refused("lets by " + v, () -> cell(1, 3), x -> x.lets(0, v, 0, 0), -1, 1);
        for (int v : new int[] {-51, 51, MIN, MAX}) {
            Told.refused("LINE " + v, () -> cell(1, 3), x -> x.lets(0, 0, v, 0), -1, 2);
            Told.refused("SECOND " + v, () -> cell(1, 3), x -> x.lets(0, 0, 0, v), -1, 2);
        }
        Told.refused("no SENSE, no LINE, too many", () -> cell(1, 41), x -> x.lets(0, 2, 51, 0), -1, 1);
        Told.refused("no LINE, too many", () -> cell(1, 41), x -> x.lets(0, 0, 51, 0), -1, 2);
        Told.refused("no SECOND, too many", () -> cell(0, 41), x -> x.lets(0, 0, 0, -51), -1, 2);
    }

    /** So many LINES let: of s, without NOISE, ALONE at low says 0 (LINE from low on), at high 1 (LINE below high). */
    private static LittleMore between(int low, int high) {
        LittleMore x = thirds();
        if (low >= 0) x.tell(1, 1, low, 0, 0, 0);
        if (high >= 0) x.tell(1, 1, high, 0, 0, 1);
        return x;
    }

    /** One SECOND alone lets: a and b were felt alike. */
    private static LittleMore alike(int a, int b) {
        LittleMore x = thirds();
        x.tell(1, 0, a, b, 0, 2);
        return x;
    }

    private static int fitsOfOne(LittleMore x, int p, int sense) {
        int all = x.fits(p);
        int own = 0;
        for (int i = 0; i < all && i < 400; i++) own += x.fitAt(p, i, 0) == sense ? 1 : 0;
        return own;
    }

    private static void fits() {
        Told.says("III", "FITS: a SENSE, a LINE -10 .. 10, a SECOND -5 .. 5, that let all these");
        LittleMore none = thirds();
        Told.passes("no CELLS", none, x -> x.fits(0), 2 * 21 * 11);
        Told.due("LINE 10 alone", fitsOfOne(between(10, 11), 1, 1), 11);
        Told.due("LINE 9 and 10", fitsOfOne(between(9, 11), 1, 1), 22);
        Told.due("LINE 11 alone", fitsOfOne(between(11, 12), 1, 1), 0);
        Told.due("LINE 10 and 11", fitsOfOne(between(10, 12), 1, 1), 11);
        Told.due("LINE below 0", fitsOfOne(between(-1, 0), 1, 1), 110);
        Told.due("LINE from 0 on", fitsOfOne(between(0, -1), 1, 1), 121);
        Told.due("no LINE at all", fitsOfOne(between(10, 10), 1, 1), 0);
        int[][] seconds = {{15, 10, 21}, {16, 10, 0}, {10, 15, 21}, {10, 16, 0}, {10, 10, 21}, {14, 10, 21}, {10, 14, 21}};
        for (int[] one : seconds) Told.due("SECOND by " + one[0] + ", " + one[1], fitsOfOne(alike(one[0], one[1]), 1, 1), one[2]);
        int[][] first = {{15, 10, 5}, {10, 15, -5}, {10, 10, 0}};
        for (int[] one : first) {
            LittleMore x = alike(one[0], one[1]);
            int behind = 0;
            while (behind < 200 && x.fitAt(1, behind, 0) == 0) behind++;
            int at = behind;
            Told.due("its SECOND", x.fitAt(1, at, 2), one[2]);
            Told.due("its least LINE", x.fitAt(1, at, 1), -10);
            Told.due("its greatest LINE", x.fitAt(1, at + 20, 1), 10);
        }

        Told.says("III", "by SENSES, then LINES, then SECONDS");
        String six = "sense a line 1/1 noise 1;sense b line 1/1 noise 1;sense c line 1/1 noise 1;sense d line 1/1 noise 1;sense e line 1/1 noise 1;"
            + "sense f line 1/1 noise 1;sayer p of f";
        LittleMore x = Texts.roomOf(six);
        Told.due("six SENSES", x.fits(0), 6 * 231);
        for (int i = 0; i < 6 * 231; i++) {
            if (i % 150 == 0) x = Texts.roomOf(six);
            Told.due("SENSE of " + i, x.fitAt(0, i, 0), i / 231);
            Told.due("LINE of " + i, x.fitAt(0, i, 1), i % 231 / 11 - 10);
            Told.due("SECOND of " + i, x.fitAt(0, i, 2), i % 11 - 5);
        }
        LittleMore y = Texts.roomOf(six.replace("sense b line 1/1", "sense b line 2/1").replace("sense e line 1/1", "sense e line 2/1"));
        y.tell(0, 1, 4, 0, 0, 0);
        y.tell(0, 1, 6, 0, 0, 1);
        y.tell(0, 0, 2, 3, 0, 1);
        y.tell(0, 0, 3, 2, 0, 0);
        // a: LINE 4, 5, SECOND 0; b: LINE 8 .. 10 (11 is too far), SECOND -1 .. 1
        int i = 0;
        for (int sense = 0; sense < 6; sense++) {
            boolean twice = sense == 1 || sense == 4;
            for (int line = twice ? 8 : 4; line <= (twice ? 10 : 5); line++) {
                for (int second = twice ? -1 : 0; second <= (twice ? 1 : 0); second++) {
                    Told.due("SENSE of " + i, y.fitAt(0, i, 0), sense);
                    Told.due("LINE of " + i, y.fitAt(0, i, 1), line);
                    Told.due("SECOND of " + i, y.fitAt(0, i, 2), second);
                    i++;
                }
            }
        }
        Told.due("how many", y.fits(0), i);
        Told.due("no more", y.fitAt(0, i, 0), -1000);

        Told.says("20", "NONE: 1; 3");
        for (int v : new int[] {-1, 3, MIN, MAX}) Told.refused("fits(" + v + ")", () -> cell(1, 3), z -> z.fits(v), -1, 1);
        Told.refused("no SAYER, too many", () -> cell(1, 41), z -> z.fits(3), -1, 1);
        Told.passes("none at all", between(12, 12), z -> z.fits(1), 0);

        Told.says("21", "Of the i-th of FITS what 0 SENSE, 1 LINE, 2 SECOND");
        Told.passes("the first", thirds(), z -> z.fitAt(0, 0, 0), 0);
        Told.passes("the last", thirds(), z -> z.fitAt(0, 461, 0), 1);
        for (int p = 0; p <= 2; p++) {
            int of = p;
            Told.passes("the last of the first SENSE, of SAYER " + p, thirds(), z -> z.fitAt(of, 230, 0), 0);
            Told.passes("the first of the second SENSE, of SAYER " + p, thirds(), z -> z.fitAt(of, 231, 0), 1);
            Told.passes("the last of all, of SAYER " + p, thirds(), z -> z.fitAt(of, 461, 0), 1);
        }
        Told.passes("its LINE", thirds(), z -> z.fitAt(0, 461, 1), 10);
        Told.passes("its SECOND", thirds(), z -> z.fitAt(0, 461, 2), 5);

        Told.says("21", "-1,000: 1 (what, too); 3; 1 (no such i)");
        for (int v : new int[] {-1, 3, MIN, MAX}) {
            Told.refused("fitAt(" + v + ")", () -> cell(1, 3), z -> z.fitAt(v, 0, 0), -1000, 1);
            Told.refused("fitAt, what " + v, () -> cell(1, 3), z -> z.fitAt(0, 0, v), -1000, 1);
        }
        for (int v : new int[] {-1, 462, MIN, MAX}) Told.refused("fitAt(0, " + v + ")", EdgesOfJudgingTest::thirds, z -> z.fitAt(0, v, 0), -1000, 1);
        Told.refused("of none", () -> between(12, 12), z -> z.fitAt(1, 0, 0), -1000, 1);
        Told.refused("no what, too many", () -> cell(1, 41), z -> z.fitAt(0, 0, 3), -1000, 1);
        Told.refused("no SAYER, too many", () -> cell(1, 41), z -> z.fitAt(3, 0, 0), -1000, 1);
        Told.refused("too many, no i", () -> cell(1, 41), z -> z.fitAt(0, -1, 0), -1000, 3);
    }

    private static void verdicts() {
        Told.says("22", "A SENSE in FITS: 0 in none, 1 in some, 2 in all (and some there are)");
        Told.passes("both, first", thirds(), x -> x.verdict(0, 0), 1);
        Told.passes("both, second", thirds(), x -> x.verdict(0, 1), 1);
        LittleMore one = Texts.roomOf("sense s line 1/1 noise 1;sense h line 1/2 noise 1;sayer p of s");
        one.tell(0, 1, 4, 0, 0, 0);
        one.tell(0, 1, 5, 0, 0, 1);
        Told.passes("h feels 4 and 5 alike", one, x -> x.verdict(0, 1), 0);
        Told.passes("s alone", one, x -> x.verdict(0, 0), 2);
        one.tell(0, 1, 5, 0, 0, 0);
        Told.passes("there are none: s", one, x -> x.verdict(0, 0), 0);
        Told.passes("there are none: h", one, x -> x.verdict(0, 1), 0);
        LittleMore alone = Texts.roomOf("sense s line 1/1 noise 1;sayer p of s");
        Told.passes("one SENSE there is", alone, x -> x.verdict(0, 0), 2);
        alone.tell(0, 1, 12, 0, 0, 0);
        Told.passes("by a LINE beyond 10 alone", alone, x -> x.verdict(0, 0), 0);
        alone = Texts.roomOf("sense s line 1/1 noise 1;sayer p of s");
        alone.tell(0, 0, 16, 10, 0, 2);
        Told.passes("by a SECOND beyond 5 alone", alone, x -> x.verdict(0, 0), 0);

        Told.says("22", "NONE: 1; 3");
        for (int v : new int[] {-1, 3, MIN, MAX}) Told.refused("verdict(" + v + ")", () -> cell(1, 3), x -> x.verdict(v, 0), -1, 1);
        for (int v : new int[] {-1, 2, MIN, MAX}) Told.refused("verdict of " + v, () -> cell(1, 3), x -> x.verdict(0, v), -1, 1);
        Told.refused("no SENSE, too many", () -> cell(1, 41), x -> x.verdict(0, 2), -1, 1);
    }

    private static void linesAndSeconds() {
        Told.says("23", "The least (or greatest) LINE, -50 .. 50, with which a SENSE LETS the CELLS of ALONE");
        int[][] lines = {{-1, -1, -50, 50}, {7, 12, 7, 11}, {11, 12, 11, 11}, {0, -1, 0, 50}, {-1, 0, -50, -1}, {-1, 50, -50, 49}, {-1, 51, -50, 50},
            {50, 51, 50, 50}, {49, 50, 49, 49}, {50, -1, 50, 50}, {0, 1, 0, 0}};
        for (int[] l : lines) {
            Told.passes("0 at " + l[0] + ", 1 at " + l[1] + ", least", between(l[0], l[1]), x -> x.lineOf(1, 1, false), l[2]);
            Told.passes("0 at " + l[0] + ", 1 at " + l[1] + ", most", between(l[0], l[1]), x -> x.lineOf(1, 1, true), l[3]);
        }
        // a third of 40: 8 .. 19 say 1 by the LINE 9; by 8 two thirds do, by 10 none
        Told.passes("by SPANS, least", told(0, 1, 9, 0, 27, 13), x -> x.lineOf(0, 0, false), 9);
        Told.passes("by SPANS, most", told(0, 1, 9, 0, 27, 13), x -> x.lineOf(0, 0, true), 9);
        Told.passes("a FEELING below 0, least", told(0, 1, 0, 0, 27, 13), x -> x.lineOf(0, 0, false), 0);
        Told.passes("a FEELING below 0, two thirds", told(0, 1, 0, 0, 13, 27), x -> x.lineOf(0, 0, true), -1);
        Told.passes("CELLS of PAIR don't matter", alike(60, 9), x -> x.lineOf(1, 1, false), -50);

        Told.says("23", "-1,000: 1; 3 (as with lets()); 6");
        for (int v : new int[] {-1, 3, MIN, MAX}) Told.refused("lineOf(" + v + ")", () -> cell(1, 3), x -> x.lineOf(v, 0, true), -1000, 1);
        for (int v : new int[] {-1, 2, MIN, MAX}) Told.refused("lineOf by " + v, () -> cell(1, 3), x -> x.lineOf(0, v, true), -1000, 1);
        for (int most = 0; most <= 1; most++) {
            boolean m = most == 1;
            Told.refused("beyond 50, " + m, () -> between(51, 52), x -> x.lineOf(1, 1, m), -1000, 6);
            Told.refused("51 alone, " + m, () -> between(51, -1), x -> x.lineOf(1, 1, m), -1000, 6);
            Told.refused("against itself, " + m, () -> between(9, 9), x -> x.lineOf(1, 1, m), -1000, 6);
            Told.refused("no SENSE, too many, " + m, () -> cell(1, 41), x -> x.lineOf(0, 2, m), -1000, 1);
            Told.refused("too many, none, " + m, () -> told(between(9, 9), 1, 0, 1, 2, 0, 41), x -> x.lineOf(1, 1, m), -1000, 3);
        }

        Told.says("24", "The least (or greatest) SECOND, -50 .. 50, with which it LETS the CELLS of PAIR");
        int[][] seconds = {{60, 10, 50}, {59, 10, 49}, {10, 60, -50}, {10, 59, -49}, {10, 10, 0}};
        for (int[] s : seconds) {
            Told.passes("alike " + s[0] + ", " + s[1] + ", least", alike(s[0], s[1]), x -> x.secondOf(1, 1, false), s[2]);
            Told.passes("alike " + s[0] + ", " + s[1] + ", most", alike(s[0], s[1]), x -> x.secondOf(1, 1, true), s[2]);
        }
        int[][] both = {{20, 10, 1, 11, 50}, {20, 10, 0, -50, 9}, {10, 20, 1, -9, 50}, {10, 20, 0, -50, -11}, {60, 10, 0, -50, 49}, {10, 60, 1, -49, 50},
            {59, 10, 1, 50, 50}, {10, 59, 0, -50, -50}};
        for (int[] s : both) {
            LittleMore x = thirds();
            x.tell(1, 0, s[0], s[1], 0, s[2]);
            Told.passes(s[0] + ", " + s[1] + " says " + s[2] + ", least", x, y -> y.secondOf(1, 1, false), s[3]);
            Told.passes(s[0] + ", " + s[1] + " says " + s[2] + ", most", x, y -> y.secondOf(1, 1, true), s[4]);
        }
        Told.passes("no CELLS, least", thirds(), x -> x.secondOf(1, 1, false), -50);
        Told.passes("no CELLS, most", thirds(), x -> x.secondOf(1, 1, true), 50);
        Told.passes("CELLS of ALONE don't matter", between(9, 9), x -> x.secondOf(1, 1, true), 50);
        LittleMore guess = Texts.roomOf("sense s line 1/1 noise 1;sayer g of s guess");
        guess.tell(0, 0, 20, 10, 0, 1);
        Told.passes("guess as the SAYER's: like ones say 1", guess, x -> x.secondOf(0, 0, false), 10);

        Told.says("24", "-1,000: 1; 3 (as with lets()); 6");
        for (int v : new int[] {-1, 3, MIN, MAX}) Told.refused("secondOf(" + v + ")", () -> cell(1, 3), x -> x.secondOf(v, 0, true), -1000, 1);
        for (int v : new int[] {-1, 2, MIN, MAX}) Told.refused("secondOf by " + v, () -> cell(1, 3), x -> x.secondOf(0, v, true), -1000, 1);
        for (int most = 0; most <= 1; most++) {
            boolean m = most == 1;
            Told.refused("beyond 50, " + m, () -> alike(61, 10), x -> x.secondOf(1, 1, m), -1000, 6);
            Told.refused("beyond -50, " + m, () -> alike(10, 61), x -> x.secondOf(1, 1, m), -1000, 6);
            Told.refused("no SENSE, too many, " + m, () -> cell(1, 41), x -> x.secondOf(0, 2, m), -1000, 1);
            Told.refused("too many, none, " + m, () -> told(alike(61, 10), 1, 1, 1, 0, 0, 41), x -> x.secondOf(1, 1, m), -1000, 3);
        }
    }

    private static void manyCells() {
        Told.says("III", "THE BOOK: up to 1,000 TRIALS .. A CELL: TRIALS of one SAYER alike in all that is named: a CELL of each of them");
        LittleMore x = Texts.roomOf("sense s line 1/1 noise 1;sayer a of s line 9;sayer b of s line 19;sayer c of s line 29;sayer d of s line 39;"
            + "sayer e of s line 49;sayer f of s;plan u up 1 to 200 by 1 times 1");
        for (int p = 0; p < 5; p++) x.run(0, p);
        Told.due("TRIALS", x.size(4), 1000);
        for (int p = 0; p < 5; p++) {
            Told.due("least LINE of " + p, x.lineOf(p, 0, false), 10 * p + 9);
            Told.due("greatest LINE of " + p, x.lineOf(p, 0, true), 10 * p + 9);
        }
        Told.due("another one has no CELL", x.lineOf(5, 0, true), 50);
        x = Texts.roomOf("sense s line 1/1 noise 1;sayer a of s line 9;sayer b of s;plan u up 1 to 200 by 1 times 1;plan v up 201 to 400 by 1 times 1;"
            + "plan d down 1 to 200 by 1 times 1");
        x.run(0, 0);
        x.run(1, 0);
        for (int i = 0; i < 200; i++) x.tell(0, 0, 1 + i, 1, 0, 0);
        x.run(1, 1);
        x.run(2, 1);
        Told.due("TRIALS", x.size(4), 1000);
        Told.due("by the 1,000th CELL", x.lineOf(1, 0, true), 0);
        Told.due("by the 10th", x.lineOf(0, 0, true), 9);
        Told.due("by the 9th", x.lineOf(0, 0, false), 9);
        Told.due("by the 401st", x.secondOf(0, 0, true), -1);
        for (int round = 0; round < 2; round++) {
            x = Texts.roomOf("sense s line 1/1 noise 1;sayer a of s second 3;sayer b of s second less 4");
            for (int a = 1; a <= 15; a++) {
                for (int b = 1; b <= 15; b++) for (int p = 0; p < 2; p++) x.trial(p, 0, round * 100 + a, round * 100 + b, 0);
            }
            Told.due("least SECOND of a", x.secondOf(0, 0, false), 3);
            Told.due("greatest SECOND of a", x.secondOf(0, 0, true), 3);
            Told.due("least SECOND of b", x.secondOf(1, 0, false), -4);
            Told.due("greatest SECOND of b", x.secondOf(1, 0, true), -4);
        }
        for (int round = 0; round < 8; round++) scattered(round);
        for (int turned = 0; turned <= 1; turned++) {
            x = Texts.roomOf("sense s line 1/1 noise 1;sayer a of s;sayer b of s;sayer c of s;sayer d of s;sayer e of s;plan u up 1 to 200 by 1 times 1");
            for (int p = 1; p <= 4; p++) x.run(0, p);
            for (int size = 101; size <= 300; size++) {
                int answer = size == 200 ? 2 : size < 200 == (turned == 0) ? 1 : 0;
                x.tell(0, 0, turned == 0 ? size : 200, turned == 0 ? 200 : size, 0, answer);
            }
            Told.due("TRIALS", x.size(4), 1000);
            Told.due("200 CELLS alike in one size, least SECOND", x.secondOf(0, 0, false), 0);
            Told.due("200 CELLS alike in one size, greatest SECOND", x.secondOf(0, 0, true), 0);
        }
        x = Texts.roomOf("sense s line 1/1 noise 1;sayer a of s second 3;plan u up 1 to 10 by 1 times 20");
        x.run(0, 0);
        x.run(0, 0);
        Told.due("40 each of 10 CELLS", x.lineOf(0, 0, true), 0);
        x.run(0, 0);
        Told.due("60 each", x.lineOf(0, 0, true), -1000);
        x.clear();
        x.run(0, 0);
        Told.due("20 each once THE BOOK was empty", x.lineOf(0, 0, true), 0);
        besideOneAnother();
    }

    /** The class finds CELLS by a sum over all that is named: five of another SAYER that have the sum of ALONE 10 push it to that of ALONE 53. */
    private static void besideOneAnother() {
        LittleMore x = Texts.roomOf("sense s line 1/1 noise 1;sayer a of s;sayer b of s");
        for (int i = 0; i < 5; i++) x.tell(1, 0, 2 + 5 * i, 103 + 43 * i, 0, 1);
        x.tell(0, 1, 10, 0, 0, 0);
        x.tell(0, 1, 53, 0, 0, 1);
        Told.due("ALONE 10 said 0, so the least LINE", x.lineOf(0, 0, false), 10);
        Told.due("ALONE 53 said 1, and the greatest LINE", x.lineOf(0, 0, true), 50);
        Told.due("how many FITS", x.fits(0), 11);
    }

    /** 440 CELLS of both kinds and three SAYERS, far and wide; without NOISE each says what its own sizes bring, so one mixed up with another shows. */
    private static void scattered(int round) {
        LittleMore x = Texts.roomOf("sense s line 1/1 noise 1;sayer a of s;sayer b of s;sayer c of s");
        int[] line = {3, 20, 45};
        int[] second = {0, 30, -25};
        int[][] least = {{-50, -50, -50}, {-50, -50, -50}};
        int[][] most = {{50, 50, 50}, {50, 50, 50}};
        for (int i = 0; i < 440; i++) {
            int p = i % 3;
            int kind = i / 3 % 2;
            int a = 1 + (i * 37 + round * 11) % (kind == 1 ? 90 : 97);
            int b = Math.min(400, Math.max(1, a - second[p] + (i * 7 + round) % 23 - 11));
            int lead = kind == 1 ? a - line[p] : b + second[p] - a;
            x.tell(p, kind, a, b, 0, lead > 0 ? 1 : kind == 0 && lead == 0 ? 2 : 0);
            int bound = kind == 1 ? a : a - b;
            if (lead > 0 && kind == 1) most[1][p] = Math.min(most[1][p], bound - 1);
            if (lead <= 0 && kind == 1) least[1][p] = Math.max(least[1][p], bound);
            if (lead >= 0 && kind == 0) least[0][p] = Math.max(least[0][p], lead > 0 ? bound + 1 : bound);
            if (lead <= 0 && kind == 0) most[0][p] = Math.min(most[0][p], lead < 0 ? bound - 1 : bound);
        }
        for (int p = 0; p < 3; p++) {
            Told.due("least LINE of " + p + ", " + round, x.lineOf(p, 0, false), least[1][p]);
            Told.due("greatest LINE of " + p + ", " + round, x.lineOf(p, 0, true), most[1][p]);
            Told.due("least SECOND of " + p + ", " + round, x.secondOf(p, 0, false), least[0][p]);
            Told.due("greatest SECOND of " + p + ", " + round, x.secondOf(p, 0, true), most[0][p]);
        }
    }

    public static void main(String[] args) {
        spans();
        letsWords();
        overfull();
        letsNumbers();
        fits();
        verdicts();
        linesAndSeconds();
        manyCells();
        Told.end();
    }
}
