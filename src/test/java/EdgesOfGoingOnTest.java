import java.util.NoSuchElementException;
import java.util.function.Predicate;

/** Promises 37 to 42 and Terms V, sentence by sentence. */
public final class EdgesOfGoingOnTest {
    private static final int MIN = Integer.MIN_VALUE;
    private static final int MAX = Integer.MAX_VALUE;
    private static final long SINCE = 65537L;
    private static final long IN_ALL = 65537L * 4096;

    private static LittleMore hall() {
        LittleMore x = Texts.roomOf("sense n line 1/1 noise 2 1 1;sense s line 1/1 noise 1;sayer p of n line 3 tires 3 learns 4;sayer q of s;"
            + "plan u up 1 to 200 by 1 times 1;pay y hit 1 miss 1 false 1 right 1 there 1");
        x.tell(0, 1, 9, 0, 0, 1);
        x.rest(0);
        x.tell(0, 3, 9, 0, 0, 70);
        x.tell(1, 1, 9, 0, 0, 0);
        x.tell(0, 0, 9, 9, 0, 2);
        x.seed(77);
        return x;
    }

    /** p has so many TRIALS in all. */
    private static LittleMore with(int inAll) {
        LittleMore x = hall();
        x.restore(0, IN_ALL * Math.min(4095, inAll) + 5);
        for (int i = 4095; i < inAll; i++) x.tell(0, 3, 1, 0, 0, 1);
        Told.due("TRIALS in all", x.sayer(0, 5), inAll);
        return x;
    }

    private static void images() {
        Told.says("37", "SEED and 65,537 times (TRIALS since it RESTED and 4,096 times TRIALS in all) of a SAYER");
        Told.passes("p", hall(), x -> x.image(0), 77 + 2 * SINCE + 3 * IN_ALL);
        Told.passes("q", hall(), x -> x.image(1), 77 + SINCE + IN_ALL);
        LittleMore x = Texts.roomOf("sense s line 1/1 noise 1;sayer p of s");
        Told.passes("nothing", x, y -> y.image(0), 0);
        x.seed(65536);
        Told.passes("the greatest SEED", x, y -> y.image(0), 65536);
        x.tell(0, 1, 1, 0, 0, 0);
        Told.passes("one TRIAL", x, y -> y.image(0), 65536 + SINCE + IN_ALL);
        x.rest(0);
        Told.passes("it RESTED", x, y -> y.image(0), 65536 + IN_ALL);

        Told.says("37", "NONE: 1; 3 (TRIALS in all above 4,095)");
        for (int p : new int[] {-1, 2, MIN, MAX}) Told.refused("image(" + p + ")", EdgesOfGoingOnTest::hall, y -> y.image(p), -1, 1);
        Told.passes("4,094", with(4094), y -> y.image(0), 5 + 4094 * IN_ALL);
        Told.passes("4,095", with(4095), y -> y.image(0), 5 + 4095 * IN_ALL);
        Told.refused("4,096", () -> with(4096), y -> y.image(0), -1, 3);
        Told.refused("4,097", () -> with(4097), y -> y.image(0), -1, 3);
        Told.passes("another one's", with(4096), y -> y.image(1), 5 + SINCE + IN_ALL);
        x = with(4096);
        x.run(0, 0);
        Told.due("far above", x.image(0), -1);
        Told.passes("restored", x, y -> y.restore(0, 0) ? 1 : 0, 1);
        Told.passes("and taken again", x, y -> y.image(0), 0);
    }

    private static void restores() {
        Told.says("38", "SEED and TRIALS of a SAYER are as in an IMAGE: true");
        long[][] images = {{0, 0, 0}, {65536, 0, 0}, {0, 0, 1}, {0, 1, 1}, {65536, 1, 1}, {7, 0, 4095}, {7, 4095, 4095}, {65536, 4095, 4095}, {1, 4094, 4095},
            {9, 6, 12}};
        for (long[] i : images) {
            LittleMore x = hall();
            long image = i[0] + SINCE * i[1] + IN_ALL * i[2];
            Told.passes("restore(" + image + ")", x, y -> y.restore(0, image) ? 1 : 0, 1);
            Told.due("SEED", x.size(5), i[0]);
            Told.due("since", x.sayer(0, 6), i[1]);
            Told.due("in all", x.sayer(0, 5), i[2]);
            Told.due("TIRED", x.sayer(0, 3), i[1] / 3);
            Told.due("LEARNED", x.sayer(0, 4), Math.min(2, i[2] / 4));
            Told.due("another one's in all", x.sayer(1, 5), 1);
            Told.due("another one's since", x.sayer(1, 6), 1);
            Told.due("THE BOOK stays", x.size(4), 4);
            Told.due("the LINE stays", x.sayer(0, 1), 3);
            Told.due("its image", x.image(0), image);
        }

        Told.says("38", "a run that goes on from an image");
        LittleMore x = hall();
        for (int i = 0; i < 5; i++) x.trial(0, 1, 4, 0, 0);
        long image = x.image(0);
        LittleMore other = hall();
        Told.due("restore", other.restore(0, image), true);
        for (int i = 0; i < 40; i++) {
            Told.due("ALONE " + i, other.trial(0, 1, 6, 0, 0), x.trial(0, 1, 6, 0, 0));
            Told.due("NUMBER " + i, other.trial(0, 3, 6, 0, 0), x.trial(0, 3, 6, 0, 0));
        }
        Told.due("image at the end", other.image(0), x.image(0));

        Told.says("38", "false: 1; 2 (below 0, TRIALS since it RESTED above those in all, in all above 4,095)");
        for (int p : new int[] {-1, 2, MIN, MAX}) Told.refusedBy("restore(" + p + ")", EdgesOfGoingOnTest::hall, y -> y.restore(p, 0), 1);
        for (long v : new long[] {-1, -2, -65537, -IN_ALL, Long.MIN_VALUE, SINCE, 65536 + SINCE, 4095 * SINCE, 6 * SINCE + 5 * IN_ALL,
            4095 * SINCE + 4094 * IN_ALL, 4096 * IN_ALL, 4096 * IN_ALL + SINCE, 5000 * IN_ALL, (1L << 32) * IN_ALL / 65537, Long.MAX_VALUE}) {
            Told.refusedBy("restore(0, " + v + ")", EdgesOfGoingOnTest::hall, y -> y.restore(0, v), 2);
        }
        Told.refusedBy("no SAYER, below 0", EdgesOfGoingOnTest::hall, y -> y.restore(2, -1), 1);
        Told.refusedBy("no ROOM, below 0", LittleMore::new, y -> y.restore(0, -1), 1);
    }

    private static void clears() {
        Told.says("39", "THE BOOK is empty: how many TRIALS it had");
        Told.unmarked("of none", new LittleMore(), x -> x.clear(), 0);
        LittleMore x = hall();
        Told.unmarked("of four", x, y -> y.clear(), 4);
        Told.due("TRIALS", x.size(4), 0);
        Told.due("book", x.book(0, 0), -1);
        Told.due("count", x.count(0, 1, 9, 0, 0, -1), 0);
        Told.due("fits", x.fits(0), 2 * 231);
        Told.due("led", led(x, 0, 0), -7);
        Told.due("its SAYER's TRIALS stay", x.sayer(0, 5), 3);
        Told.due("since stays", x.sayer(0, 6), 2);
        Told.due("SEED stays", x.size(5), 77);
        Told.unmarked("again", x, y -> y.clear(), 0);
        for (int i = 0; i < 5; i++) x.run(0, 1);
        Told.due("full", x.trial(0, 1, 1, 0, 0), -1);
        Told.unmarked("of a full one", x, y -> y.clear(), 1000);
        for (int i = 0; i < 5; i++) Told.due("there is room for 1,000 again", x.run(0, 1), 200);
        Told.due("full again", x.trial(0, 1, 1, 0, 0), -1);
    }

    /** -7 for a NoSuchElementException. */
    private static int led(LittleMore x, int p, int i) {
        try {
            return x.led(p, i);
        } catch (NoSuchElementException e) {
            return -7;
        }
    }

    private static void leds() {
        Told.says("40", "The i-th answer of a SAYER in THE BOOK");
        int[][] answers = {{1, 70, 2}, {0}};
        for (int p = 0; p < 2; p++) {
            for (int i = 0; i < answers[p].length; i++) {
                int of = p;
                int at = i;
                Told.unmarked("led(" + p + ", " + i + ")", hall(), x -> led(x, of, at), answers[p][i]);
            }
        }
        LittleMore x = Texts.roomOf("sense s line 1/1 noise 1;sayer p of s line 7;sayer q of s;plan u up 1 to 200 by 1 times 1;sayer r of s");
        for (int i = 0; i < 4; i++) x.run(0, 1);
        x.tell(2, 4, 1, 0, 0, MAX);
        for (int i = 0; i < 199; i++) x.trial(0, 3, 1 + i, 0, 0);
        Told.due("far behind another one's", led(x, 0, 0), 1);
        Told.due("the last of a full one", led(x, 0, 198), 199);
        Told.due("a far answer", led(x, 2, 0), MAX);
        Told.due("behind the last", led(x, 0, 199), -7);
        Told.due("one of 800", led(x, 1, 799), 1);
        Told.due("behind 800", led(x, 1, 800), -7);

        Told.says("40", "NoSuchElementException if there is none such");
        for (int i : new int[] {-1, 3, 4, 999, 1000, MIN, MAX}) Told.unmarked("led(0, " + i + ")", hall(), y -> led(y, 0, i), -7);
        for (int p : new int[] {-1, 2, 6, MIN, MAX}) Told.unmarked("led(" + p + ", 0)", hall(), y -> led(y, p, 0), -7);
        Told.unmarked("without a ROOM", new LittleMore(), y -> led(y, 0, 0), -7);
        Told.unmarked("without TRIALS", Texts.roomOf("sense s line 1/1 noise 1;sayer p of s"), y -> led(y, 0, 0), -7);
        LittleMore z = hall();
        String before = Told.state(z);
        led(z, 0, 3);
        Told.due("nothing has changed", Told.state(z).equals(before), true);
        Texts.room(z, "sense s line 1/1 noise 1;sayer p of s");
        Told.due("of another ROOM", led(z, 0, 0), -7);
    }

    private static void sizes() {
        Told.says("41", "0 SENSES, 1 SAYERS, 2 plans, 3 pays, 4 TRIALS of THE BOOK, 5 SEED, 6 bytes of THE TAPE");
        LittleMore x = Texts.roomOf("sense a line 1/1 noise 1;sense b line 1/1 noise 1;sayer c of a;sayer d of a;sayer e of a;sayer f of a;"
            + "plan g up 1 to 1 by 1 times 1;plan h up 1 to 1 by 1 times 1;plan i up 1 to 1 by 1 times 1;pay j hit 1 miss 1 false 1 right 1 there 1");
        x.feed(0, 0, 0, 0, 0);
        x.feed(0, 0, 0, 0, 0);
        for (int i = 0; i < 5; i++) x.trial(0, 1, 1, 0, 0);
        x.seed(65536);
        int[] due = {2, 4, 3, 1, 5, 65536, 40};
        for (int what = 0; what <= 6; what++) {
            int asked = what;
            Told.unmarked("size(" + what + ")", x, y -> y.size(asked), due[what]);
        }

        Told.says("41", "NONE for others; 0 for what there isn't");
        for (int what : new int[] {-1, 7, 8, MIN, MAX}) {
            Told.unmarked("size(" + what + ")", x, y -> y.size(what), -1);
            Told.due("size(" + what + ") without a ROOM", new LittleMore().size(what), -1);
        }
        for (int what = 0; what <= 6; what++) Told.due("size(" + what + ") without a ROOM", new LittleMore().size(what), 0);
        LittleMore y = Texts.roomOf("sense a line 1/1 noise 1");
        for (int what = 1; what <= 6; what++) Told.due("size(" + what + ") of a ROOM of a SENSE", y.size(what), 0);
    }

    private static void troubles() {
        Told.says("V", "TROUBLE of the latest call that may be refused (those of which a number is told here): 0 it wasn't");
        Told.unmarked("feed", hall(), x -> x.feed(0, 0, 0, 0, 0), 20);
        Told.unmarked("fault", hall(), x -> x.fault(), 0);
        Told.unmarked("where", hall(), x -> x.where(), -1);
        Told.unmarked("level", hall(), x -> x.level(0, 1), 1);
        Told.unmarked("noise", hall(), x -> x.noise(0, 1), 1);
        Told.unmarked("sayer", hall(), x -> x.sayer(0, 1), 3);
        Told.unmarked("book", hall(), x -> x.book(0, 1), 1);
        Told.unmarked("clear", hall(), x -> x.clear(), 4);
        Told.unmarked("size", hall(), x -> x.size(5), 77);
        Told.unmarked("trouble", hall(), x -> x.trouble(), 1);
        Told.passes("rest", hall(), x -> x.rest(0) ? 1 : 0, 1);
        Told.passes("odds", hall(), x -> x.odds(1, 1, 1, 0, 0, 1, false), 1);
        Told.passes("seed", hall(), x -> x.seed(0) ? 1 : 0, 1);
        Told.passes("trial", hall(), x -> x.trial(1, 1, 1, 0, 0), 1);
        Told.passes("tell", hall(), x -> x.tell(1, 1, 1, 0, 0, 1), 5);
        Told.passes("run", hall(), x -> x.run(0, 1), 200);
        Told.passes("climb", hall(), x -> x.climb(1, 5, 1, 1), 4);
        Told.passes("count", hall(), x -> x.count(1, 1, 9, 0, 0, 0), 1);
        Told.passes("span", hall(), x -> x.span(1, 1, 2, true), 1);
        Told.passes("lets", hall(), x -> x.lets(1, 1, 9, 0), 1);
        Told.passes("fits", hall(), x -> x.fits(0) > 0 ? 1 : 0, 1);
        Told.passes("fitAt", hall(), x -> x.fitAt(0, 0, 0), 0);
        Told.passes("verdict", hall(), x -> x.verdict(0, 0) > 0 ? 1 : 0, 1);
        Told.passes("lineOf", hall(), x -> x.lineOf(1, 1, false), 9);
        Told.passes("secondOf", hall(), x -> x.secondOf(1, 1, false), -50);
        Told.passes("more", hall(), x -> x.more(1, 1, 1), 1);
        Told.passes("fails", hall(), x -> x.fails(1, 1, 1, 1, 1), -2);
        Told.passes("steps", hall(), x -> x.steps(1, 1, 1, 2), 1);
        Told.passes("felt", hall(), x -> x.felt(1, 1), 1);
        Told.passes("gain", hall(), x -> x.gain(0, 1, 1, 0), 100);
        Told.passes("best", hall(), x -> x.best(0, 1, 1), -50);
        Told.passes("moves", hall(), x -> x.moves(0, 1, 1), -50);
        Told.passes("parted", hall(), x -> x.parted(1, 1, 0, 1, 1), -2);
        Told.passes("fewest", hall(), x -> x.fewest(1, 1, 1, 1), -2);
        Told.passes("match", hall(), x -> x.match(1, 1, 1), 1);
        Told.passes("closes", hall(), x -> x.closes(1, 1, 1, 1), 0);
        Told.passes("stair", hall(), x -> x.stair(1, 1, 1, 1, 1), 1);
        Told.passes("image", hall(), x -> x.image(1), 77 + SINCE + IN_ALL);
        Told.passes("restore", hall(), x -> x.restore(1, 0) ? 1 : 0, 1);
        Told.passes("room", hall(), x -> Texts.room(x, "sense s line 1/1 noise 1"), 1);

        Told.says("42", "TROUBLE: 1 there is none such; 2 a number; 3 no room; 4 a FAULT; 6 there is none");
        LittleMore x = hall();
        Told.due("nothing yet", new LittleMore().trouble(), 0);
        x.rest(2);
        Told.due("1", x.trouble(), 1);
        Told.due("asked again", x.trouble(), 1);
        x.seed(-1);
        Told.due("2", x.trouble(), 2);
        for (int i = 0; i < 5; i++) x.run(0, 1);
        Told.due("3", x.trouble(), 3);
        x.clear();
        x.tell(1, 1, 9, 0, 0, 0);
        x.tell(1, 1, 8, 0, 0, 1);
        Told.due("0", x.trouble(), 0);
        x.lineOf(1, 1, false);
        Told.due("6", x.trouble(), 6);
        x.lineOf(1, 2, false);
        Told.due("1 ahead of 6", x.trouble(), 1);
        x.tell(1, 0, 61, 10, 0, 2);
        x.secondOf(1, 1, true);
        Told.due("6 too", x.trouble(), 6);
        x.room(0);
        Told.due("4", x.trouble(), 4);
        Told.due("where", x.where(), 0);
        x.more(1, 400, 1);
        Told.due("-2 isn't a refusal", x.trouble(), 0);
    }

    /** A ROOM of as many SENSES, SAYERS, plans and pays as told; all SENSES feel alike, all SAYERS are of the first. */
    private static LittleMore roomOf(int[] counts) {
        String[] lines = {"sense # line 1/1 noise 1", "sayer # of a", "plan # up 1 to 1 by 1 times 1", "pay # hit 1 miss 1 false 1 right 1 there 1"};
        StringBuilder text = new StringBuilder();
        char name = 'a';
        for (int sort = 0; sort < 4; sort++) {
            for (int i = 0; i < counts[sort]; i++) text.append(name == 'a' ? "" : ";").append(lines[sort].replace("#", "" + name++));
        }
        return Texts.roomOf(text.toString());
    }

    /** A call by a number of a sort (0 SENSES, 1 SAYERS, 2 plans, 3 pays), which tells whether it was refused by 1. */
    private interface By {
        void ask(LittleMore x, int number);
    }

    private static void such(String call, int sort, By by) {
        for (int[] counts : new int[][] {{6, 1, 2, 4}, {1, 6, 4, 2}, {2, 3, 1, 4}, {4, 2, 3, 1}, {5, 4, 1, 3}}) {
            for (int number = -1; number <= 7; number++) {
                int asked = number;
                Predicate<LittleMore> refused = x -> {
                    x.seed(-1);
                    by.ask(x, asked);
                    return x.trouble() == 1;
                };
                boolean there = number >= 0 && number < counts[sort];
                Told.due(call + " by " + number + " of " + counts[sort], refused.test(roomOf(counts)), !there);
            }
        }
    }

    private static void noneSuch() {
        Told.says("V", "1 there is none such: of as many as the ROOM has, not of as many as it has of another sort");
        such("rest", 1, (x, i) -> x.rest(i));
        such("odds", 1, (x, i) -> x.odds(i, 0, 1, 1, 0, 0, false));
        such("odds of MATCH", 0, (x, i) -> x.odds(0, 4, 1, i, 0, 0, false));
        such("trial", 1, (x, i) -> x.trial(i, 1, 1, 0, 0));
        such("trial of MATCH", 0, (x, i) -> x.trial(0, 4, 1, i, 0));
        such("tell", 1, (x, i) -> x.tell(i, 1, 1, 0, 0, 0));
        such("tell of MATCH", 0, (x, i) -> x.tell(0, 4, 1, i, 0, 0));
        such("run", 1, (x, i) -> x.run(0, i));
        such("run of a plan", 2, (x, i) -> x.run(i, 0));
        such("climb", 1, (x, i) -> x.climb(i, 1, 1, 1));
        such("count", 1, (x, i) -> x.count(i, 1, 1, 0, 0, 0));
        such("count of MATCH", 0, (x, i) -> x.count(0, 4, 1, i, 0, 0));
        such("lets", 1, (x, i) -> x.lets(i, 0, 0, 0));
        such("lets by a SENSE", 0, (x, i) -> x.lets(0, i, 0, 0));
        such("fits", 1, (x, i) -> x.fits(i));
        such("fitAt", 1, (x, i) -> x.fitAt(i, 0, 0));
        such("verdict", 1, (x, i) -> x.verdict(i, 0));
        such("verdict of a SENSE", 0, (x, i) -> x.verdict(0, i));
        such("lineOf", 1, (x, i) -> x.lineOf(i, 0, true));
        such("lineOf by a SENSE", 0, (x, i) -> x.lineOf(0, i, true));
        such("secondOf", 1, (x, i) -> x.secondOf(i, 0, true));
        such("secondOf by a SENSE", 0, (x, i) -> x.secondOf(0, i, true));
        such("more", 1, (x, i) -> x.more(i, 1, 1));
        such("fails", 1, (x, i) -> x.fails(i, 1, 1, 1, 1));
        such("steps", 1, (x, i) -> x.steps(i, 1, 1, 1));
        such("felt", 1, (x, i) -> x.felt(i, 1));
        such("gain", 1, (x, i) -> x.gain(0, i, 1, 0));
        such("gain of a pay", 3, (x, i) -> x.gain(i, 0, 1, 0));
        such("best", 1, (x, i) -> x.best(0, i, 1));
        such("best of a pay", 3, (x, i) -> x.best(i, 0, 1));
        such("moves", 1, (x, i) -> x.moves(0, i, 1));
        such("moves of a pay", 3, (x, i) -> x.moves(i, 0, 1));
        such("parted", 0, (x, i) -> x.parted(i, 0, 0, 1, 1));
        such("parted, the other", 0, (x, i) -> x.parted(0, i, 0, 1, 1));
        such("fewest", 0, (x, i) -> x.fewest(i, 0, 1, 1));
        such("fewest, the other", 0, (x, i) -> x.fewest(0, i, 1, 1));
        such("match", 0, (x, i) -> x.match(i, 1, 0));
        such("match, the other", 0, (x, i) -> x.match(0, 1, i));
        such("closes", 0, (x, i) -> x.closes(i, 0, 0, 1));
        such("closes, the second", 0, (x, i) -> x.closes(0, i, 0, 1));
        such("closes, the third", 0, (x, i) -> x.closes(0, 0, i, 1));
        such("stair", 1, (x, i) -> x.stair(i, 1, 1, 1, 1));
        such("image", 1, (x, i) -> x.image(i));
        such("restore", 1, (x, i) -> x.restore(i, 0));

        Told.says("V", "none such where no number is told: NONE, -1,000 or a NoSuchElementException");
        for (int[] counts : new int[][] {{6, 1, 2, 4}, {1, 6, 4, 2}, {2, 3, 1, 4}}) {
            for (int number = -1; number <= 7; number++) {
                LittleMore x = roomOf(counts);
                for (int p = 0; p < counts[1]; p++) x.tell(p, 1, 1, 0, 0, 1);
                boolean sense = number >= 0 && number < counts[0];
                boolean sayer = number >= 0 && number < counts[1];
                Told.due("level by " + number + " of " + counts[0], x.level(number, 5), sense ? 5 : -1);
                Told.due("noise by " + number + " of " + counts[0], x.noise(number, 0), sense ? 1 : -1);
                Told.due("sayer by " + number + " of " + counts[1], x.sayer(number, 7), sayer ? 1 : -1000);
                Told.due("led by " + number + " of " + counts[1], led(x, number, 0), sayer ? 1 : -7);
            }
        }
    }

    public static void main(String[] args) {
        noneSuch();
        images();
        restores();
        clears();
        leds();
        sizes();
        troubles();
        Told.end();
    }
}
