import java.util.NoSuchElementException;

/** Each promise of the document by hand: ordinary inputs, the edges that it names, and wrong inputs. */
public final class PromisesTest {
    private static int wrong = 0;
    private static int seen = 0;

    private static final String ROOM = "sense w share 10 noise 2 1;sense l line 1/2 noise 1;"
            + "sense s power 1/2 then line 3/1 noise 3 0 2;sense f floor 2 noise 1 1;"
            + "sayer p of w line 3 second 1 tires 5 learns 4;sayer q of l guess likes 20,5,10;"
            + "sayer r of s line less 2;sayer t of f;sayer z of l line 50 second less 50;"
            + "plan u up 10 to 30 by 10 times 2;plan d down 5 to 12 by 3 times 1;plan m mixed 5 to 7 by 1 times 1;"
            + "plan a up 1 to 200 by 1 times 1;pay y hit 10 miss less 5 false less 8 right 2 there 50;"
            + "pay n hit 1 miss 1 false 1 right 1 there 0";

    private static void due(String call, long got, long want) {
        seen++;
        if (got != want) {
            wrong++;
            System.out.println(call + " answered " + got + ", due is " + want);
        }
    }

    private static void due(String call, boolean got, boolean want) {
        due(call, got ? 1 : 0, want ? 1 : 0);
    }

    /** A refusal with its number. */
    private static void no(String call, LittleMore x, long got, long want, int trouble) {
        due(call, got, want);
        due(call + ", trouble", x.trouble(), trouble);
    }

    private static LittleMore hall() {
        return Texts.roomOf(ROOM);
    }

    /** An object whose latest call was refused, so that a call that isn't refused shows in trouble(). */
    private static LittleMore refused() {
        LittleMore x = hall();
        x.rest(-1);
        return x;
    }

    private static void fault(String text, int number, int place) {
        LittleMore x = new LittleMore();
        due("room of " + text, Texts.room(x, text), number == 0 ? x.size(0) : -1);
        due("fault of " + text, x.fault(), number);
        due("where of " + text, x.where(), number == 0 ? -1 : place);
        due("trouble of " + text, x.trouble(), number == 0 ? 0 : 4);
    }

    private static int leds(LittleMore x, int p, int i) {
        try {
            return x.led(p, i);
        } catch (NoSuchElementException e) {
            return -99;
        }
    }

    private static String times(String text, int n) {
        StringBuilder all = new StringBuilder();
        for (int i = 0; i < n; i++) all.append(text);
        return all.toString();
    }

    private static void promise1() {
        LittleMore x = new LittleMore();
        for (int what = 0; what <= 6; what++) due("1: size " + what, x.size(what), 0);
        due("1: trouble", x.trouble(), 0);
        due("1: fault", x.fault(), 0);
        due("1: where", x.where(), -1);
        due("1: level", x.level(0, 0), -1);
        due("1: book", x.book(0, 0), -1);
        due("1: NONE", LittleMore.NONE, -1);
        no("1: no sayer", x, x.trial(0, 1, 1, 0, 0), -1, 1);
        no("1: no plan", x, x.run(0, 0), -1, 1);
        no("1: no sense", x, x.match(0, 1, 0), -1, 1);
        no("1: no pay", x, x.gain(0, 0, 1, 0), Long.MIN_VALUE, 1);
    }

    private static void promise2() {
        LittleMore x = new LittleMore();
        for (int i = 1; i <= 35; i++) due("2: feed " + i, x.feed(0, 0, 0, 0, 0), 20 * i);
        x.rest(0);
        due("2: feed too many", x.feed(0, 0, 0, 0, 0), -1);
        due("2: feed tells no trouble", x.trouble(), 1);
        due("2: none came", x.size(6), 700);
        x = new LittleMore();
        // "sense a line 1/1 noi" and then "se 1" with the highest byte first.
        x.feed(0x73656e73, 0x65206120, 0x6c696e65, 0x20312f31, 0x206e6f69);
        x.feed(0x73652031, 0x20202020, 0x20202020, 0x20202020, 0x202020ff);
        due("2: in order", x.room(39), 1);
        x.feed(0x73656e73, 0x65206120, 0x6c696e65, 0x20312f31, 0x206e6f69);
        x.feed(0x73652031, 0x20202020, 0x20202020, 0x20202020, 0x202020ff);
        due("2: the last byte", x.room(40), -1);
        due("2: the last byte's place", x.where(), 39);
    }

    private static void promise3() {
        LittleMore x = hall();
        due("3: senses", x.size(0), 4);
        x.trial(0, 1, 4, 0, 0);
        due("3: seed", x.size(5), 74);
        x.feed(0, 0, 0, 0, 0);
        no("3: more than taped", x, x.room(21), -1, 2);
        no("3: below 0", x, x.room(-1), -1, 2);
        no("3: far off", x, x.room(Integer.MIN_VALUE), -1, 2);
        due("3: the tape stays", x.size(6), 20);
        no("3: fault", x, x.room(20), -1, 4);
        due("3: the tape is empty", x.size(6), 0);
        due("3: the room stays", x.size(1), 5);
        due("3: the book stays", x.size(4), 1);
        due("3: seed stays", x.size(5), 74);
        due("3: trials stay", x.sayer(0, 5), 1);
        no("3: good", x, Texts.room(x, "sense a line 1/1 noise 1;sayer p of a"), 1, 0);
        due("3: sayers", x.size(1), 1);
        due("3: plans", x.size(2), 0);
        due("3: pays", x.size(3), 0);
        due("3: the book is empty", x.size(4), 0);
        due("3: seed is 0", x.size(5), 0);
        due("3: a new sayer", x.sayer(0, 5), 0);
        due("3: not its line", x.sayer(0, 1), 0);
        due("3: not its second", x.sayer(0, 2), 0);
        due("3: no guess", x.sayer(0, 8), 0);
        due("3: the first bytes alone", Texts.room(x, "sense a line 1/1 noise 1"), 1);
    }

    private static void promise4() {
        String good = "sense a line 1/1 noise 1";
        fault(good, 0, 0);
        fault("  " + good + "  ", 0, 0);
        fault("sense a line1/1noise1", 0, 0);
        fault("sense a line 001 / 01 noise 009 0 0 0 0 9", 0, 0);
        fault("sense share share 99 then power 3/3 then line 99/99 then floor 399 noise 9 9 9 9 9 9", 0, 0);
        fault(good + ";sayer of of a line less 50 second 50 tires 99 learns 1 guess likes 0,999,1,2,3,4", 0, 0);
        fault(good + ";sayer b of a learns 99 likes 7", 0, 0);
        fault(good + ";plan up up 1 to 400 by 2 times 1;plan x down 400 to 400 by 400 times 20", 0, 0);
        fault(good + ";pay hit hit less 99 miss 99 false 0 right less 0 there 100", 0, 0);
        fault("plan x up 1 to 200 by 1 times 1;" + good, 0, 0);
        // 1 FORM
        fault("", 1, 0);
        fault("   ", 1, 3);
        fault(good + ";", 1, 25);
        fault(good + ";;" + good, 1, 25);
        fault(good + " x", 1, 25);
        fault(good + " 1000", 1, 25);
        fault("sense abcdefghi line 1/1 noise 1", 1, 6);
        fault("sense abcdefgh line 1/1 noise 1", 0, 0);
        fault("Sense a line 1/1 noise 1", 1, 0);
        fault("sense a line 1/1 noise", 1, 22);
        fault("sense a line 1/1 noise  ", 1, 24);
        fault("sense a line 1 1 noise 1", 1, 15);
        fault("sense a line 1/1 then noise 1", 1, 22);
        fault("sense a noise 1", 1, 8);
        fault("sense a share 3/1 noise 1", 1, 15);
        fault("sense a line 1/1 noise 1-2", 1, 24);
        fault("sense a line 1/1 noise 1" + (char) 0xe9, 1, 24);
        for (String kept : new String[] {"sense", "sayer", "plan", "pay", "then", "noise", "line", "less", "to", "by", "likes", "guess"}) {
            fault("sense " + kept + " line 1/1 noise 1", 1, 6);
            fault(good + ";sayer b of " + kept, 1, 36);
        }
        fault(good + ";sayer b a", 1, 33);
        fault(good + ";sayer b of a guess line 1", 1, 44);
        fault(good + ";sayer b of a learns 2 tires 1", 1, 47);
        fault(good + ";sayer b of a line less less 1", 1, 48);
        fault(good + ";sayer b of a likes", 1, 43);
        fault(good + ";sayer b of a likes 1 2", 1, 46);
        fault(good + ";sayer b of a likes 1,", 1, 46);
        fault("plan x out 1 to 2 by 1 times 1", 1, 7);
        fault("plan x up 1 by 1", 1, 12);
        fault("plan x up less 1 to 2 by 1 times 1", 1, 10);
        fault("pay x miss 1", 1, 6);
        fault("pay x hit 1 miss 1 false 1 right 1 there less 1", 1, 41);
        // 2 not told
        fault(good + ";sayer b of c", 2, 36);
        fault(good + ";sayer b of b", 2, 36);
        fault("plan x up 1 to 2 by 1 times 1;sayer b of x;" + good, 2, 41);
        fault("sayer b of a;" + good, 2, 11);
        // 3 told again
        fault(good + ";" + good, 3, 31);
        fault(good + ";sayer a of a", 3, 31);
        fault(good + ";plan a up", 3, 30);
        fault(good + ";sayer b of a likes 7,8,07", 3, 48);
        fault(good + ";sayer b of a likes 1,2,3,4,5,6,1", 3, 56);
        fault("plan x up 1 to 2 by 1 times 1;pay x hit", 3, 34);
        // 4 out of bounds
        fault("sense a share 1 noise 1", 4, 14);
        fault("sense a share 100 noise 1", 4, 14);
        fault("sense a power 0/1 noise 1", 4, 14);
        fault("sense a power 1/4 noise 1", 4, 16);
        fault("sense a line 0/1 noise 1", 4, 13);
        fault("sense a line 1/100 noise 1", 4, 15);
        fault("sense a floor 400 noise 1", 4, 14);
        fault("sense a floor 0 noise 0", 4, 22);
        fault("sense a floor 0 noise 10", 4, 22);
        fault("sense a floor 0 noise 1 10", 4, 24);
        fault("sense a floor 0 noise 1 1 1 1 1 1 10", 4, 34);
        fault(good + ";sayer b of a line less 51", 4, 48);
        fault(good + ";sayer b of a second 51", 4, 45);
        fault(good + ";sayer b of a tires 0", 4, 44);
        fault(good + ";sayer b of a learns 100", 4, 45);
        fault(good + ";sayer b of a learns 0", 4, 45);
        fault(good + ";sayer b of a tires 100", 4, 44);
        fault("plan x up 0 to 2 by 1 times 1", 4, 10);
        fault("plan x up 401 to 401", 4, 10);
        fault("plan x up 7 to 6", 4, 15);
        fault("plan x up 7 to 401", 4, 15);
        fault("plan x up 7 to 7 by 0", 4, 20);
        fault("plan x up 7 to 7 by 401", 4, 20);
        fault("plan x up 7 to 7 by 1 times 0", 4, 28);
        fault("plan x up 7 to 7 by 1 times 21", 4, 28);
        fault("plan x up 1 to 201 by 1 times 1", 4, 30);
        fault("plan x up 1 to 21 by 2 times 19", 4, 29);
        fault("pay x hit 100", 4, 10);
        fault("pay x hit less 100", 4, 15);
        fault("pay x hit 1 miss 100 false 1 right 1 there 1;" + good, 4, 17);
        fault("pay x hit 1 miss 1 false 100 right 1 there 1;" + good, 4, 25);
        fault("pay x hit 1 miss 1 false 1 right less 100 there 1;" + good, 4, 38);
        fault("pay x hit 1 miss 1 false 1 right 1 there 101", 4, 41);
        // 5 many
        String senses = "sense a floor 0 noise 1;sense b floor 0 noise 1;sense c floor 0 noise 1;sense d floor 0 noise 1;"
                + "sense e floor 0 noise 1;sense f floor 0 noise 1";
        fault(senses, 0, 0);
        fault(senses + ";sense a", 5, 144);
        String sayers = ";sayer g of a;sayer h of a;sayer i of a;sayer j of a;sayer k of a;sayer l of a";
        fault(good + sayers, 0, 0);
        fault(good + sayers + ";sayer", 5, 24 + 6 * 13 + 1);
        String plans = "plan m up 1 to 1 by 1 times 1;plan n up 1 to 1 by 1 times 1;plan o up 1 to 1 by 1 times 1;plan p up 1 to 1 by 1 times 1;";
        fault(plans + good, 0, 0);
        fault(plans + "plan", 5, 120);
        String pay = " hit 1 miss 1 false 1 right 1 there 1;";
        String pays = "pay q" + pay + "pay r" + pay + "pay s" + pay + "pay t" + pay;
        fault(pays + good, 0, 0);
        fault(pays + "pay g", 5, pays.length());
        fault("sense a floor 0" + times(" then floor 0", 3) + " then share", 5, 8 + 4 * 13);
        fault("sense a floor 0" + times(" then floor 0", 3) + " then noise", 1, 8 + 4 * 13);
        fault("sense a floor 0 noise 1 1 1 1 1 1 9", 5, 34);
        fault(good + ";sayer b of a likes 1,2,3,4,5,6,7", 5, 56);
        fault(good + sayers + ";" + plans + pays + "sense pp floor 0 noise 1", 0, 0);
        fault(good + sayers + ";" + plans + "pay p", 3, good.length() + sayers.length() + 1 + plans.length() + 4);
        // 6 lacks
        fault("plan x up 1 to 2 by 1 times 1", 6, 29);
        fault("plan x up 1 to 2 by 1 times 1 ", 6, 30);
        LittleMore x = new LittleMore();
        Texts.room(x, "                    ");
        due("4: blanks", x.where(), 20);
        due("4: nothing", x.room(0), -1);
        due("4: nothing's fault", x.fault(), 1);
        due("4: nothing's place", x.where(), 0);
        Texts.room(x, "plan x up 1 to 2 by 1 times 1");
        x.room(-1);
        due("4: room refused by 2 leaves the fault", x.fault(), 6);
        Texts.room(x, good);
        due("4: none any more", x.fault(), 0);
    }

    private static void promise5() {
        LittleMore x = new LittleMore();
        Texts.room(x, "sense a line 1/1 noise 1 x");
        due("5: where", x.where(), 25);
        x.feed(0, 0, 0, 0, 0);
        x.size(0);
        x.level(0, 0);
        x.clear();
        due("5: these can't be refused", x.where(), 25);
        x.room(-1);
        due("5: by 2", x.where(), -1);
        x.room(20);
        Texts.room(x, "sense");
        due("5: where again", x.where(), 5);
        x.seed(1);
        due("5: not refused", x.where(), -1);
        due("5: fault stays", x.fault(), 1);
    }

    private static void promise6() {
        LittleMore x = Texts.roomOf("sense a share 2 noise 1;sense b power 2/3 noise 1;sense c power 3/1 then power 1/3 noise 1;"
                + "sense d line 99/1 then floor 399 noise 1;sense e line 2/3 then floor 3 then share 10 noise 1;sense f power 3/2 noise 1");
        // marks by half: 1 2 3 4 6 9 13 19 28 42 63 94 141 211 316 474
        int[] marks = {0, 0, 1, 1, 2, 2, 3, 3, 5, 4, 6, 5, 8, 5, 9, 6, 315, 14, 316, 15, 400, 15};
        for (int i = 0; i < marks.length; i += 2) due("6: share at " + marks[i], x.level(0, marks[i]), marks[i + 1]);
        due("6: power 26", x.level(1, 26), 8);
        due("6: power 27", x.level(1, 27), 9);
        due("6: power 0", x.level(1, 0), 0);
        due("6: no further than 9,999", x.level(2, 400), 21);
        due("6: 21 cubed", x.level(2, 21), 21);
        due("6: line", x.level(3, 101), 9600);
        due("6: line 100", x.level(3, 100), 9501);
        due("6: floor", x.level(3, 4), 0);
        due("6: floor 5", x.level(3, 5), 96);
        due("6: three steps", x.level(4, 40), 21);
        due("6: 0 at least", x.level(4, 5), 0);
        due("6: power 3/2 of 5", x.level(5, 5), 11);
        due("6: power 3/2 of 400", x.level(5, 400), 8000);
        due("6: below", x.level(0, -1), -1);
        due("6: above", x.level(0, 401), -1);
        due("6: no sense", x.level(6, 1), -1);
        due("6: no sense below", x.level(-1, 1), -1);
        x.rest(0);
        x.level(9, 9);
        due("6: no trouble of its own", x.trouble(), 1);
    }

    private static void promise7() {
        LittleMore x = Texts.roomOf("sense a floor 0 noise 3 0 2;sense b floor 0 noise 9 8 7 6 5 4;sayer p of b learns 1");
        int[] often = {2, 0, 3, 0, 2};
        for (int v = -2; v <= 2; v++) due("7: noise " + v, x.noise(0, v), often[v + 2]);
        due("7: beyond", x.noise(0, 3), 0);
        due("7: beyond below", x.noise(0, -3), 0);
        due("7: widest", x.noise(1, 5), 4);
        due("7: widest below", x.noise(1, -5), 4);
        due("7: wider", x.noise(1, 6), 0);
        due("7: far", x.noise(1, Integer.MAX_VALUE), 0);
        due("7: far below", x.noise(1, Integer.MIN_VALUE), 0);
        x.tell(0, 1, 1, 0, 0, 1);
        due("7: what is learned is the sayer's", x.noise(1, 5), 4);
        due("7: no sense", x.noise(2, 0), -1);
        due("7: no sense below", x.noise(-1, 0), -1);
    }

    private static void promise8() {
        LittleMore x = hall();
        int[] p = {0, 3, 1, 0, 0, 0, 0, 4, 0, 0};
        for (int what = 0; what <= 9; what++) due("8: p " + what, x.sayer(0, what), p[what]);
        int[] q = {1, 0, 0, 0, 0, 0, 0, 1, 1, 3};
        for (int what = 0; what <= 9; what++) due("8: q " + what, x.sayer(1, what), q[what]);
        due("8: r", x.sayer(2, 1), -2);
        due("8: z", x.sayer(4, 2), -50);
        due("8: w as it is", x.sayer(2, 7), 7);
        for (int i = 0; i < 12; i++) x.tell(0, 1, 1, 0, 0, 0);
        int[] now = {0, 3, 1, 2, 1, 12, 12, 2, 0, 0};
        for (int what = 0; what <= 9; what++) due("8: p after twelve, " + what, x.sayer(0, what), now[what]);
        due("8: no what", x.sayer(0, 10), -1000);
        due("8: no what below", x.sayer(0, -1), -1000);
        due("8: no sayer", x.sayer(5, 0), -1000);
        due("8: no sayer below", x.sayer(-1, 0), -1000);
        LittleMore y = Texts.roomOf("sense a floor 0 noise 9 8 7;sayer p of a tires 3 learns 2");
        int[] out = {0, 0, 1, 1, 2, 2, 2, 2, 2};
        int[] w = {39, 39, 25, 25, 9, 9, 9, 9, 9};
        int[] tired = {0, 0, 0, 1, 1, 1, 2, 2, 2};
        for (int i = 0; i < out.length; i++) {
            due("8: left out after " + i, y.sayer(0, 4), out[i]);
            due("8: W after " + i, y.sayer(0, 7), w[i]);
            due("8: tired after " + i, y.sayer(0, 3), tired[i]);
            y.tell(0, 1, 1, 0, 0, 0);
        }
    }

    private static void promise9() {
        LittleMore x = refused();
        for (int i = 0; i < 7; i++) x.trial(0, 1, 1, 0, 0);
        x.rest(-1);
        due("9: rests", x.rest(0), true);
        due("9: trouble", x.trouble(), 0);
        due("9: tired", x.sayer(0, 3), 0);
        due("9: since", x.sayer(0, 6), 0);
        due("9: in all", x.sayer(0, 5), 7);
        due("9: learned", x.sayer(0, 4), 1);
        no("9: none", x, x.rest(5) ? 1 : 0, 0, 1);
        no("9: none below", x, x.rest(-1) ? 1 : 0, 0, 1);
    }

    /** Noise of -5, 0 and 5 alone, each a third: two differ by -10 .. 10, by 1, 2, 3, 2, 1 of 9. */
    private static final String WIDEST = "sense a floor 0 noise 1 0 0 0 0 1;sayer p of a line 5 second less 10;"
            + "sayer q of a line 6 second less 11;sayer r of a";

    private static void promise10() {
        LittleMore wide = Texts.roomOf(WIDEST);
        int[] leads = {-11, -9, -1, 0, 5, 10, 11};
        int[][] pairs = {{9, 0, 0}, {8, 1, 0}, {6, 3, 0}, {3, 3, 3}, {1, 6, 2}, {0, 8, 1}, {0, 9, 0}};
        for (int i = 0; i < leads.length; i++) {
            for (int answer = 0; answer <= 2; answer++) {
                due("10: lead " + leads[i] + ", " + answer, wide.odds(2, 0, 100, 100 + leads[i], 0, answer, false), pairs[i][answer]);
            }
        }
        // of three like ones one alone off is the odd one; all off or none: the least place.
        int sum = 0;
        for (int place = 0; place <= 2; place++) sum += wide.odds(2, 2, 100, 100, 0, place, false);
        due("10: odd, all together", sum, 27);
        due("10: odd, the whole", wide.odds(2, 2, 100, 100, 0, 0, true), 27);
        due("10: odd, the last is off", wide.odds(2, 2, 100, 100, 0, 2, false), 6);
        due("10: alone, widest", wide.odds(0, 1, 1, 0, 0, 1, false), 1);
        due("10: alone, no wider", wide.odds(1, 1, 1, 0, 0, 1, false), 0);
        due("10: number, widest", wide.odds(2, 3, 7, 0, 0, 12, false), 1);
        due("10: number, widest below", wide.odds(2, 3, 7, 0, 0, 2, false), 1);
        LittleMore x = refused();
        due("10: pair 1", x.odds(2, 0, 4, 9, 0, 1, false), 45);
        due("10: trouble", x.trouble(), 0);
        due("10: pair 0", x.odds(2, 0, 4, 9, 0, 0, false), 4);
        due("10: pair 2", x.odds(2, 0, 4, 9, 0, 2, false), 0);
        due("10: pair whole", x.odds(2, 0, 4, 9, 0, 2, true), 49);
        due("10: pair like", x.odds(2, 0, 4, 4, 0, 2, false), 17);
        due("10: guess", x.odds(1, 0, 10, 10, 0, 1, false), 1);
        due("10: guess never 2", x.odds(1, 0, 10, 10, 0, 2, false), 0);
        due("10: second", x.odds(0, 0, 10, 10, 0, 1, false), 11);
        due("10: alone of 0", x.odds(2, 1, 0, 0, 0, 1, false), 5);
        due("10: alone 0", x.odds(2, 1, 0, 0, 0, 0, false), 2);
        due("10: alone whole", x.odds(2, 1, 0, 0, 0, 9, true), 7);
        due("10: odd place", x.odds(1, 2, 10, 14, 1, 1, false), 1);
        due("10: odd, like ones", x.odds(1, 2, 10, 10, 1, 0, false), 1);
        due("10: odd whole", x.odds(2, 2, 10, 10, 1, 0, true), 343);
        due("10: odd below", x.odds(1, 2, 14, 10, 2, 2, false), 1);
        due("10: liked, of two the lesser", x.odds(1, 3, 30, 0, 0, 10, false), 1);
        due("10: liked, the nearest", x.odds(1, 3, 31, 0, 0, 10, false), 1);
        due("10: liked, nearer", x.odds(1, 3, 32, 0, 0, 20, false), 1);
        due("10: number", x.odds(2, 3, 1, 0, 0, 3, false), 3);
        due("10: number, 0 at least", x.odds(3, 3, 1, 0, 0, 0, false), 2);
        due("10: number below 0", x.odds(3, 3, 1, 0, 0, -1, false), 0);
        due("10: match", x.odds(0, 4, 10, 1, 0, 20, false), 2);
        due("10: match less", x.odds(0, 4, 10, 1, 0, 18, false), 1);
        due("10: match between", x.odds(0, 4, 10, 1, 0, 21, false), 0);
        due("10: match whole", x.odds(0, 4, 10, 1, 0, 21, true), 4);
        due("10: known 0, against", x.odds(0, 5, 10, 10, 0, 1, false), 1);
        due("10: known 0", x.odds(0, 5, 10, 10, 0, 0, false), 15);
        due("10: known 1", x.odds(0, 5, 10, 10, 1, 1, false), 16);
        due("10: known 1, against by 2", x.odds(1, 5, 20, 16, 1, 1, false), 1);
        due("10: known 1, against by 3", x.odds(1, 5, 20, 14, 1, 0, false), 1);
        due("10: can't be", x.odds(0, 0, 10, 10, 0, 3, false), 0);
        due("10: what isn't named", x.odds(0, 1, 3, 999, -5, 1, false), 1);
        for (int i = 0; i < 5; i++) x.tell(0, 1, 1, 0, 0, 0);
        due("10: as it is now, tired", x.odds(0, 1, 4, 0, 0, 1, false), 0);
        due("10: as it is now, learned", x.odds(0, 1, 5, 0, 0, 1, false), 2);
        due("10: tired of pairs", x.odds(0, 0, 10, 10, 0, 1, false), 4);
        no("10: no sayer", x, x.odds(5, 0, 1, 1, 0, 0, false), -1, 1);
        no("10: no kind", x, x.odds(0, 6, 1, 1, 0, 0, false), -1, 1);
        no("10: no kind below", x, x.odds(0, -1, 1, 1, 0, 0, true), -1, 1);
        no("10: no sense of match", x, x.odds(0, 4, 1, 4, 0, 0, false), -1, 1);
        no("10: no sense ahead of the size", x, x.odds(0, 4, 0, -1, 0, 0, false), -1, 1);
        no("10: pair of 0", x, x.odds(0, 0, 0, 1, 0, 0, true), -1, 2);
        no("10: pair with 401", x, x.odds(0, 0, 1, 401, 0, 0, true), -1, 2);
        no("10: alone 401", x, x.odds(0, 1, 401, 0, 0, 0, true), -1, 2);
        no("10: alone -1", x, x.odds(0, 1, -1, 0, 0, 0, true), -1, 2);
        no("10: odd at 3", x, x.odds(0, 2, 1, 1, 3, 0, true), -1, 2);
        no("10: odd with 0", x, x.odds(0, 2, 1, 0, 1, 0, true), -1, 2);
        no("10: number of 0", x, x.odds(0, 3, 0, 1, 1, 0, true), -1, 2);
        no("10: match of 401", x, x.odds(0, 4, 401, 1, 1, 0, true), -1, 2);
        no("10: known 2", x, x.odds(0, 5, 1, 1, 2, 0, true), -1, 2);
        no("10: known -1", x, x.odds(0, 5, 1, 1, -1, 0, true), -1, 2);
    }

    private static void promise11() {
        LittleMore x = new LittleMore();
        no("11: below", x, x.seed(-1) ? 1 : 0, 0, 2);
        no("11: least", x, x.seed(0) ? 1 : 0, 1, 0);
        no("11: greatest", x, x.seed(65536) ? 1 : 0, 1, 0);
        no("11: above", x, x.seed(65537) ? 1 : 0, 0, 2);
        due("11: it stays", x.size(5), 65536);
        x = hall();
        x.seed(65536);
        x.trial(0, 1, 1, 0, 0);
        due("11: 65,536 stays itself", x.size(5), 65536);
    }

    private static void promise12() {
        LittleMore x = refused();
        due("12: alone", x.trial(0, 1, 4, 7, 7), 1);
        due("12: trouble", x.trouble(), 0);
        due("12: seed", x.size(5), 74);
        due("12: trials", x.sayer(0, 5), 1);
        due("12: since", x.sayer(0, 6), 1);
        // 5,624 is 0 mod 4: the noise is -1.
        due("12: alone again", x.trial(0, 1, 4, 0, 0), 0);
        due("12: the book", x.size(4), 2);
        x.seed(0);
        // a's noise first: 74 mod 4 brings 0, 5,624 mod 4 brings -1 to b, and second brings 1.
        due("12: pair", x.trial(0, 0, 10, 10, 0), 2);
        x.seed(0);
        due("12: odd draws three", x.trial(1, 2, 10, 14, 2), 2);
        due("12: seed after three", x.size(5), 28652);
        x.seed(0);
        // of W 7: 74 brings 4, counted off -2 -2 0 0 0: 0; 5,624 brings 3: 0; 28,652 brings 1: -2.
        due("12: number", x.trial(2, 3, 4, 0, 0), 6);
        due("12: number again", x.trial(2, 3, 4, 0, 0), 6);
        due("12: number less", x.trial(2, 3, 4, 0, 0), 4);
        due("12: match", x.trial(1, 4, 20, 0, 0), 10);
        due("12: known", x.trial(1, 5, 20, 10, 1), 0);
        LittleMore wide = Texts.roomOf(WIDEST);
        wide.seed(874);
        due("12: the least noise", wide.trial(2, 3, 10, 0, 0), 5);
        due("12: by 87", wide.size(5), 87);
        wide.seed(0);
        due("12: the greatest noise", wide.trial(2, 3, 10, 0, 0), 15);
        no("12: no sayer", x, x.trial(9, 0, 1, 1, 0), -1, 1);
        no("12: no kind", x, x.trial(0, 6, 1, 1, 0), -1, 1);
        no("12: no sense", x, x.trial(0, 4, 1, 9, 0), -1, 1);
        no("12: size", x, x.trial(0, 0, 1, 0, 0), -1, 2);
        no("12: c", x, x.trial(0, 5, 1, 1, 2), -1, 2);
        full(x);
        int seed = x.size(5);
        no("12: no room", x, x.trial(0, 1, 1, 0, 0), -1, 3);
        no("12: a size ahead of room", x, x.trial(0, 1, 401, 0, 0), -1, 2);
        due("12: refused draws none", x.size(5), seed);
        due("12: refused adds none", x.size(4), 1000);
    }

    /** Fills the book of a hall to its last row. */
    private static void full(LittleMore x) {
        for (int i = 0; i < 5; i++) x.run(3, 1);
        for (int i = 0; i < 1000 && x.size(4) < 1000; i++) x.tell(1, 3, 1, 0, 0, 1);
    }

    private static void promise13() {
        LittleMore x = refused();
        due("13: one", x.tell(0, 0, 10, 11, 5, 2), 1);
        due("13: trouble", x.trouble(), 0);
        due("13: two", x.tell(0, 3, 10, 11, 5, 70000), 2);
        due("13: three", x.tell(0, 4, 10, 1, 5, 70000), 3);
        due("13: four", x.tell(0, 2, 10, 1, 2, 2), 4);
        due("13: five", x.tell(0, 5, 10, 1, 1, 1), 5);
        due("13: six", x.tell(0, 1, 0, 0, 0, 1), 6);
        due("13: counts", x.sayer(0, 5), 6);
        due("13: tires", x.sayer(0, 3), 1);
        due("13: draws none", x.size(5), 0);
        no("13: pair 3", x, x.tell(0, 0, 1, 1, 0, 3), -1, 2);
        no("13: alone 2", x, x.tell(0, 1, 1, 1, 0, 2), -1, 2);
        no("13: odd 3", x, x.tell(0, 2, 1, 1, 0, 3), -1, 2);
        no("13: known 2", x, x.tell(0, 5, 1, 1, 0, 2), -1, 2);
        for (int kind = 0; kind <= 5; kind++) no("13: -1 of " + kind, x, x.tell(0, kind, 1, 1, 0, -1), -1, 2);
        no("13: size", x, x.tell(0, 1, 401, 1, 0, 0), -1, 2);
        no("13: no sayer", x, x.tell(5, 1, 1, 1, 0, 0), -1, 1);
        no("13: no sense", x, x.tell(0, 4, 1, 4, 0, 0), -1, 1);
        no("13: no kind", x, x.tell(0, 6, 1, 4, 0, 0), -1, 1);
        due("13: none came", x.size(4), 6);
        due("13: none counts", x.sayer(0, 5), 6);
        full(x);
        no("13: no room", x, x.tell(0, 1, 1, 1, 0, 0), -1, 3);
        no("13: an answer ahead of room", x, x.tell(0, 1, 1, 1, 0, 2), -1, 2);
    }

    private static void promise14() {
        LittleMore x = refused();
        due("14: up", x.run(0, 1), 6);
        due("14: trouble", x.trouble(), 0);
        int[] up = {10, 10, 20, 20, 30, 30};
        for (int i = 0; i < 6; i++) due("14: up " + i, x.book(i, 2), up[i]);
        due("14: alone", x.book(5, 1), 1);
        due("14: down", x.run(1, 1), 3);
        int[] down = {11, 8, 5};
        for (int i = 0; i < 3; i++) due("14: down " + i, x.book(6 + i, 2), down[i]);
        x.seed(0);
        due("14: mixed", x.run(2, 1), 3);
        int[] mixed = {7, 5, 6};
        for (int i = 0; i < 3; i++) due("14: mixed " + i, x.book(9 + i, 2), mixed[i]);
        due("14: drawn ahead of each", x.size(5), 12409);
        due("14: trials", x.sayer(1, 5), 12);
        due("14: none said", x.run(0, 4), 0);
        x.clear();
        LittleMore y = Texts.roomOf("sense a floor 0 noise 1;sayer p of a line 9 tires 2;plan u up 10 to 12 by 1 times 2");
        // 10 and 10 are above 9; of 11, 11 one is tired by 1 and the other too: above 10; 12, 12 are tired by 2: above 11.
        due("14: as it tires", y.run(0, 0), 6);
        due("14: tired at once", y.run(0, 0), 0);
        no("14: no plan", x, x.run(4, 0), -1, 1);
        no("14: no plan below", x, x.run(-1, 0), -1, 1);
        no("14: no sayer", x, x.run(0, 5), -1, 1);
        for (int i = 0; i < 4; i++) x.run(3, 1);
        for (int i = 0; i < 194; i++) x.tell(1, 1, 1, 0, 0, 0);
        due("14: room for all", x.run(0, 1), 6);
        due("14: full", x.size(4), 1000);
        no("14: no room", x, x.run(0, 1), -1, 3);
        x.clear();
        for (int i = 0; i < 4; i++) x.run(3, 1);
        x.tell(1, 1, 1, 0, 0, 0);
        int trials = x.sayer(1, 5);
        no("14: no room for all", x, x.run(3, 1), -1, 3);
        due("14: none came", x.size(4), 801);
        due("14: none counts", x.sayer(1, 5), trials);
    }

    private static void promise15() {
        LittleMore x = refused();
        due("15: climb", x.climb(1, 1, 50, 3), 51);
        due("15: trouble", x.trouble(), 0);
        int[] sizes = {1, 51, 1};
        for (int i = 0; i < 3; i++) due("15: size " + i, x.book(i, 2), sizes[i]);
        due("15: up to 400", x.climb(4, 90, 400, 1), 400);
        due("15: down to 1", x.climb(4, 400, 400, 1), 1);
        due("15: fifty", x.climb(1, 400, 1, 50), 350);
        LittleMore y = Texts.roomOf("sense a floor 0 noise 1;sayer p of a line 9 tires 1");
        // 20 is above 9, 19 above 10, .. 15 above 14; 14 isn't above 15.
        due("15: not fresh", y.climb(0, 20, 1, 7), 15);
        no("15: no sayer", x, x.climb(5, 1, 1, 1), -1, 1);
        no("15: start 0", x, x.climb(0, 0, 1, 1), -1, 2);
        no("15: start 401", x, x.climb(0, 401, 1, 1), -1, 2);
        no("15: step 0", x, x.climb(0, 1, 0, 1), -1, 2);
        no("15: step 401", x, x.climb(0, 1, 401, 1), -1, 2);
        no("15: n 0", x, x.climb(0, 1, 1, 0), -1, 2);
        no("15: n 51", x, x.climb(0, 1, 1, 51), -1, 2);
        x.clear();
        for (int i = 0; i < 4; i++) x.run(3, 1);
        for (int i = 0; i < 151; i++) x.tell(1, 1, 1, 0, 0, 0);
        no("15: no room", x, x.climb(1, 1, 1, 50), -1, 3);
        due("15: room", x.climb(1, 1, 2, 49) > 0, true);
        due("15: full", x.size(4), 1000);
    }

    private static void promise16() {
        LittleMore x = refused();
        x.tell(1, 0, 10, 11, 9, 1);
        x.tell(0, 1, 0, 11, 9, 1);
        x.tell(0, 2, 10, 11, 2, 0);
        x.tell(2, 3, 10, 11, 9, 44);
        x.tell(0, 4, 10, 3, 9, 45);
        x.tell(0, 5, 10, 11, 1, 0);
        int[][] rows = {{1, 0, 10, 11, 0, 1}, {0, 1, 0, 0, 0, 1}, {0, 2, 10, 11, 2, 0}, {2, 3, 10, 0, 0, 44}, {0, 4, 10, 3, 0, 45}, {0, 5, 10, 11, 1, 0}};
        for (int i = 0; i < 6; i++) for (int what = 0; what < 6; what++) due("16: " + i + " " + what, x.book(i, what), rows[i][what]);
        due("16: behind", x.book(6, 0), -1);
        due("16: ahead", x.book(-1, 0), -1);
        due("16: no what", x.book(0, 6), -1);
        due("16: no what below", x.book(0, -1), -1);
        x.rest(9);
        x.book(9, 9);
        due("16: no trouble of its own", x.trouble(), 1);
    }

    private static void promise17() {
        LittleMore x = refused();
        x.tell(0, 0, 10, 11, 9, 1);
        x.tell(0, 0, 10, 11, 8, 1);
        x.tell(0, 0, 10, 11, 7, 0);
        x.tell(0, 0, 11, 10, 7, 1);
        x.tell(1, 0, 10, 11, 7, 1);
        x.tell(0, 5, 10, 11, 1, 1);
        x.tell(0, 5, 10, 11, 0, 1);
        x.rest(9);
        due("17: ones", x.count(0, 0, 10, 11, 3, 1), 2);
        due("17: trouble", x.trouble(), 0);
        due("17: noughts", x.count(0, 0, 10, 11, 3, 0), 1);
        due("17: twos", x.count(0, 0, 10, 11, 3, 2), 0);
        due("17: all", x.count(0, 0, 10, 11, 3, -1), 3);
        due("17: turned round", x.count(0, 0, 11, 10, 3, -1), 1);
        due("17: another sayer", x.count(1, 0, 10, 11, 3, -1), 1);
        due("17: c is named", x.count(0, 5, 10, 11, 1, -1), 1);
        due("17: an answer that can't be", x.count(0, 0, 10, 11, 1, 77), 0);
        due("17: no such cell", x.count(0, 1, 10, 11, 1, -1), 0);
        no("17: no sayer", x, x.count(5, 0, 1, 1, 0, 0), -1, 1);
        no("17: no kind", x, x.count(0, 6, 1, 1, 0, 0), -1, 1);
        no("17: no sense", x, x.count(0, 4, 1, 9, 0, 0), -1, 1);
        no("17: size", x, x.count(0, 0, 0, 1, 0, 0), -1, 2);
        no("17: c", x, x.count(0, 2, 1, 1, 3, 0), -1, 2);
    }

    private static void promise18() {
        LittleMore x = new LittleMore();
        x.seed(-1);
        due("18: a fortieth to the last", x.span(1, 1, 40, true), 1);
        due("18: trouble", x.trouble(), 0);
        due("18: less than a fortieth", x.span(1, 1, 41, true), 0);
        due("18: least, a fortieth", x.span(1, 39, 40, false), 0);
        due("18: least, less", x.span(1, 40, 41, false), 1);
        due("18: a half of 40, least", x.span(40, 5000, 10000, false), 14);
        due("18: a half of 40, most", x.span(40, 5000, 10000, true), 26);
        due("18: none", x.span(40, 0, 10000, true), 0);
        due("18: none, least", x.span(40, 0, 10000, false), 0);
        due("18: all", x.span(40, 10000, 10000, false), 40);
        due("18: all, most", x.span(40, 10000, 10000, true), 40);
        // (9,999 / 10,000) to the 40th leaves 0.004 for one or more.
        due("18: one of 10,000", x.span(40, 1, 10000, true), 0);
        due("18: all but one of 10,000", x.span(40, 9999, 10000, false), 40);
        // of 2 with 1 / 7: both have 1 / 49; of 2 with 1 / 6: 1 / 36.
        due("18: two of 2 by a seventh", x.span(2, 1, 7, true), 1);
        due("18: two of 2 by a sixth", x.span(2, 1, 6, true), 2);
        no("18: n 0", x, x.span(0, 1, 2, true), -1, 2);
        no("18: n 41", x, x.span(41, 1, 2, true), -1, 2);
        no("18: y 0", x, x.span(1, 0, 0, true), -1, 2);
        no("18: y 10,001", x, x.span(1, 0, 10001, true), -1, 2);
        no("18: x below", x, x.span(1, -1, 2, true), -1, 2);
        no("18: x above y", x, x.span(1, 3, 2, true), -1, 2);
        for (int n = 1; n <= 40; n++) {
            for (int y = 1; y <= 10000; y += y < 40 ? 1 : 331) {
                x = new LittleMore();
                for (int part = 0; part <= y; part += 1 + y / 7) {
                    due("18: least " + n + " " + part + " " + y, x.span(n, part, y, false), Plain.span(n, part, y)[0]);
                    due("18: most " + n + " " + part + " " + y, x.span(n, part, y, true), Plain.span(n, part, y)[1]);
                }
            }
        }
    }

    /** Of p: pair 10, 10 twice 2; alone 4 once 0, alone 5 twice 1. Only w with a line 3 .. 5 and a second -1 .. 1 lets these. */
    private static LittleMore told() {
        LittleMore x = Texts.roomOf("sense w share 10 noise 2 1;sense l line 1/2 noise 1;sayer p of w line 3 second 1 tires 5 learns 4;sayer q of l guess");
        x.tell(0, 0, 10, 10, 0, 2);
        x.tell(0, 0, 10, 10, 0, 2);
        x.tell(0, 1, 4, 0, 0, 0);
        x.tell(0, 1, 5, 0, 0, 1);
        x.tell(0, 1, 5, 0, 0, 1);
        x.rest(-1);
        return x;
    }

    /** Of p, who has guess: pair 10, 10 some times 2, which it can't say itself. Sense n is without noise, so it lets no answer be left out. */
    private static LittleMore toldTwos(int times) {
        LittleMore x = Texts.roomOf("sense s line 1/1 noise 2 1;sense n line 1/1 noise 1;sayer p of s guess;sayer q of s");
        for (int i = 0; i < times; i++) x.tell(0, 0, 10, 10, 0, 2);
        return x;
    }

    private static void overfill(LittleMore x, int p, int kind) {
        for (int i = 0; i < 40; i++) x.tell(p, kind, 7, 8, 0, 1);
        due("a cell of 40 is judged", x.fits(p) >= 0, true);
        x.tell(p, kind, 7, 8, 0, 1);
    }

    private static void promise19() {
        LittleMore x = told();
        due("19: lets", x.lets(0, 0, 3, 1), 1);
        due("19: trouble", x.trouble(), 0);
        due("19: line 5", x.lets(0, 0, 5, -1), 1);
        due("19: line 6", x.lets(0, 0, 6, 0), 0);
        due("19: line 2", x.lets(0, 0, 2, 0), 0);
        due("19: second 2", x.lets(0, 0, 4, 2), 0);
        due("19: second -2", x.lets(0, 0, 4, -2), 0);
        due("19: another sense", x.lets(0, 1, 2, 0), 0);
        due("19: another sayer has no cells", x.lets(1, 0, 50, -50), 1);
        no("19: no sayer", x, x.lets(2, 0, 0, 0), -1, 1);
        no("19: no sense", x, x.lets(0, 2, 0, 0), -1, 1);
        no("19: such ahead of numbers", x, x.lets(0, 2, 51, 0), -1, 1);
        no("19: line 51", x, x.lets(0, 0, 51, 0), -1, 2);
        no("19: line -51", x, x.lets(0, 0, -51, 0), -1, 2);
        no("19: second 51", x, x.lets(0, 0, 0, 51), -1, 2);
        no("19: second -51", x, x.lets(0, 0, 0, -51), -1, 2);
        x.tell(1, 0, 10, 10, 0, 1);
        due("19: guess as the sayer's", x.lets(1, 1, 0, 0), 1);
        due("19: guess as the sayer's, no more", x.lets(1, 1, 0, -1), 0);
        x.tell(1, 0, 20, 10, 0, 0);
        x.tell(1, 3, 1, 0, 0, 900);
        due("19: other kinds are free", x.lets(1, 1, 0, 0), 1);
        LittleMore y = Texts.roomOf("sense a floor 0 noise 1 1;sayer p of a");
        // of 40 with a third the span is 8 .. 19: too few of one are too few, though none are too many.
        due("19: a third, least", y.span(40, 3, 9, false), 8);
        due("19: a third, most", y.span(40, 3, 9, true), 19);
        for (int i = 0; i < 40; i++) y.tell(0, 0, 9, 9, 0, i < 17 ? 0 : i < 33 ? 1 : 2);
        due("19: too few of 2", y.lets(0, 0, 0, 0), 0);
        y.clear();
        for (int i = 0; i < 40; i++) y.tell(0, 0, 9, 9, 0, i < 16 ? 0 : i < 32 ? 1 : 2);
        due("19: just enough of 2", y.lets(0, 0, 0, 0), 1);
        y.tell(0, 0, 9, 9, 0, 0);
        no("19: no room by the first cell", y, y.lets(0, 0, 0, 0), -1, 3);
        overfill(x, 0, 1);
        no("19: no room", x, x.lets(0, 0, 0, 0), -1, 3);
        no("19: numbers ahead of room", x, x.lets(0, 0, 51, 0), -1, 2);
        due("19: room for another", x.lets(1, 1, 0, 0), 1);
        for (int i = 0; i < 41; i++) x.tell(1, 3, 1, 0, 0, 900);
        due("19: other kinds may have more", x.lets(1, 1, 0, 0), 1);
        twosOfAGuess();
    }

    /** Not giving 1 at all has odds of 5 of 16 each time: of three TRIALS still above a fortieth, of four no more. */
    private static void twosOfAGuess() {
        LittleMore x = toldTwos(1);
        due("19: a told 2 isn't asked about", x.lets(0, 0, 0, 0), 1);
        due("19: second 1", x.lets(0, 0, 0, 1), 1);
        due("19: second 2", x.lets(0, 0, 0, 2), 0);
        due("19: second -2", x.lets(0, 0, 0, -2), 1);
        due("19: second -3", x.lets(0, 0, 0, -3), 0);
        due("19: without noise there must be a 1", x.lets(0, 1, 0, 0), 0);
        due("19: or a 0", x.lets(0, 1, 0, -1), 0);
        due("19: three of them", toldTwos(3).lets(0, 0, 0, 0), 1);
        due("19: four of them, each a trial", toldTwos(4).lets(0, 0, 0, 0), 0);
        x.tell(1, 0, 10, 40, 0, 2);
        due("19: without guess a 2 is asked about", x.lets(1, 0, 0, 0), 0);
        due("19: and let by a second", x.lets(1, 0, 0, -30), 1);
        LittleMore full = toldTwos(41);
        no("19: they fill a cell", full, full.lets(0, 0, 0, 0), -1, 3);
    }

    private static void promise20() {
        LittleMore x = told();
        due("20: fits", x.fits(0), 9);
        due("20: trouble", x.trouble(), 0);
        due("20: without cells", x.fits(1), 2 * 21 * 11);
        no("20: no sayer", x, x.fits(2), -1, 1);
        x.tell(0, 1, 400, 0, 0, 0);
        due("20: none", x.fits(0), 0);
        due("20: a told 2 of a sayer with guess", toldTwos(1).fits(0), 21 * 4);
        due("20: four of them", toldTwos(4).fits(0), 0);
        overfill(x, 1, 0);
        no("20: no room", x, x.fits(1), -1, 3);
    }

    private static void promise21() {
        LittleMore x = told();
        int i = 0;
        for (int line = 3; line <= 5; line++) {
            for (int second = -1; second <= 1; second++) {
                due("21: sense of " + i, x.fitAt(0, i, 0), 0);
                due("21: line of " + i, x.fitAt(0, i, 1), line);
                due("21: second of " + i, x.fitAt(0, i, 2), second);
                i++;
            }
        }
        due("21: trouble", x.trouble(), 0);
        due("21: another sense", x.fitAt(1, 231, 0), 1);
        due("21: its first line", x.fitAt(1, 231, 1), -10);
        due("21: its first second", x.fitAt(1, 231, 2), -5);
        due("21: the last", x.fitAt(1, 461, 1), 10);
        due("21: the last second", x.fitAt(1, 461, 2), 5);
        no("21: behind", x, x.fitAt(1, 462, 0), -1000, 1);
        no("21: no such", x, x.fitAt(0, 9, 0), -1000, 1);
        no("21: below", x, x.fitAt(0, -1, 0), -1000, 1);
        no("21: no what", x, x.fitAt(0, 0, 3), -1000, 1);
        no("21: no what below", x, x.fitAt(0, 0, -1), -1000, 1);
        no("21: no sayer", x, x.fitAt(2, 0, 0), -1000, 1);
        overfill(x, 0, 0);
        no("21: no room", x, x.fitAt(0, 0, 0), -1000, 3);
        no("21: no room ahead of i", x, x.fitAt(0, -1, 0), -1000, 3);
        no("21: what ahead of room", x, x.fitAt(0, 0, 3), -1000, 1);
        LittleMore y = toldTwos(1);
        due("21: guess, the first", y.fitAt(0, 0, 2), -2);
        due("21: guess, the fourth", y.fitAt(0, 3, 2), 1);
        due("21: guess, the fifth", y.fitAt(0, 4, 1), -9);
        no("21: guess, no more", y, y.fitAt(0, 84, 0), -1000, 1);
    }

    private static void promise22() {
        LittleMore x = told();
        due("22: in all", x.verdict(0, 0), 2);
        due("22: trouble", x.trouble(), 0);
        due("22: in none", x.verdict(0, 1), 0);
        due("22: in some", x.verdict(1, 0), 1);
        due("22: in some too", x.verdict(1, 1), 1);
        no("22: no sayer", x, x.verdict(2, 0), -1, 1);
        no("22: no sense", x, x.verdict(0, 2), -1, 1);
        x.tell(0, 1, 400, 0, 0, 0);
        due("22: there are none", x.verdict(0, 0), 0);
        overfill(x, 0, 1);
        no("22: no room", x, x.verdict(0, 0), -1, 3);
        due("22: guess, in all", toldTwos(1).verdict(0, 0), 2);
        due("22: guess, in none", toldTwos(1).verdict(0, 1), 0);
    }

    private static void promise23() {
        LittleMore x = told();
        due("23: least", x.lineOf(0, 0, false), 3);
        due("23: trouble", x.trouble(), 0);
        due("23: most", x.lineOf(0, 0, true), 5);
        no("23: none", x, x.lineOf(0, 1, false), -1000, 6);
        no("23: none, most", x, x.lineOf(0, 1, true), -1000, 6);
        due("23: no cells", x.lineOf(1, 1, false), -50);
        due("23: no cells, most", x.lineOf(1, 1, true), 50);
        x.tell(1, 1, 40, 0, 0, 1);
        due("23: beyond 10", x.lineOf(1, 1, true), 19);
        x.clear();
        x.tell(1, 1, 100, 0, 0, 0);
        due("23: the last alone", x.lineOf(1, 1, false), 50);
        x.tell(1, 1, 102, 0, 0, 0);
        no("23: no further than 50", x, x.lineOf(1, 1, false), -1000, 6);
        x.clear();
        no("23: no sayer", x, x.lineOf(2, 0, true), -1000, 1);
        no("23: no sense", x, x.lineOf(0, 2, true), -1000, 1);
        overfill(x, 0, 0);
        no("23: no room", x, x.lineOf(0, 0, true), -1000, 3);
    }

    private static void promise24() {
        LittleMore x = told();
        due("24: least", x.secondOf(0, 0, false), -1);
        due("24: trouble", x.trouble(), 0);
        due("24: most", x.secondOf(0, 0, true), 1);
        due("24: another", x.secondOf(0, 1, true), 0);
        due("24: no cells", x.secondOf(1, 1, false), -50);
        due("24: no cells, most", x.secondOf(1, 1, true), 50);
        x.tell(1, 0, 10, 50, 0, 1);
        due("24: guess", x.secondOf(1, 1, false), -20);
        x.tell(1, 0, 50, 10, 0, 0);
        due("24: guess, most", x.secondOf(1, 1, true), 19);
        x.clear();
        x.tell(0, 0, 400, 1, 0, 1);
        due("24: free of other sayers", x.secondOf(1, 1, true), 50);
        LittleMore y = Texts.roomOf("sense a floor 0 noise 1;sayer p of a");
        y.tell(0, 0, 51, 1, 0, 2);
        due("24: the last alone", y.secondOf(0, 0, false), 50);
        y.clear();
        y.tell(0, 0, 1, 51, 0, 2);
        due("24: the first alone", y.secondOf(0, 0, true), -50);
        y.clear();
        y.tell(0, 0, 52, 1, 0, 2);
        no("24: no further than 50", y, y.secondOf(0, 0, false), -1000, 6);
        no("24: none", x, x.secondOf(0, 0, false), -1000, 6);
        no("24: no sayer", x, x.secondOf(2, 0, true), -1000, 1);
        no("24: no sense", x, x.secondOf(0, 2, true), -1000, 1);
        overfill(x, 1, 1);
        no("24: no room", x, x.secondOf(1, 0, true), -1000, 3);
        LittleMore z = toldTwos(1);
        due("24: a told 2 of a sayer with guess", z.secondOf(0, 0, false), -2);
        due("24: a told 2 of a sayer with guess, most", z.secondOf(0, 0, true), 1);
        no("24: none without noise", z, z.secondOf(0, 1, true), -1000, 6);
    }

    private static void promise25() {
        LittleMore x = refused();
        due("25: sure", x.more(0, 30, 100), 6);
        due("25: trouble", x.trouble(), 0);
        due("25: at 10", x.more(0, 10, 100), 2);
        // with a lead of 2 all but -2 bring 1: 15 of 16 are 93.75 hundredths.
        due("25: 93", x.more(0, 10, 93), 1);
        due("25: 94", x.more(0, 10, 94), 2);
        due("25: guess", x.more(1, 10, 100), 1);
        due("25: none", x.more(0, 399, 100), -2);
        due("25: none isn't refused", x.trouble(), 0);
        due("25: at the end", x.more(1, 399, 100), 1);
        due("25: beyond", x.more(1, 400, 1), -2);
        // z is of l with a second less 50: from 1 on 51 steps of level are wanted, 102 sizes.
        due("25: second", x.more(4, 1, 1), 101);
        for (int i = 0; i < 20; i++) x.tell(0, 1, 1, 0, 0, 0);
        due("25: fresh", x.more(0, 10, 94), 2);
        LittleMore wide = Texts.roomOf(WIDEST);
        due("25: widest, sure", wide.more(2, 1, 100), 11);
        due("25: widest, 88", wide.more(2, 1, 88), 6);
        due("25: widest, 89", wide.more(2, 1, 89), 11);
        due("25: widest, 11 by less 10", wide.more(0, 1, 11), 1);
        due("25: widest, 12 by less 10", wide.more(0, 1, 12), 6);
        due("25: widest, 11 by less 11", wide.more(1, 1, 11), 2);
        no("25: no sayer", x, x.more(5, 1, 1), -1, 1);
        no("25: size 0", x, x.more(0, 0, 1), -1, 2);
        no("25: size 401", x, x.more(0, 401, 1), -1, 2);
        no("25: percent 0", x, x.more(0, 1, 0), -1, 2);
        no("25: percent 101", x, x.more(0, 1, 101), -1, 2);
    }

    private static void promise26() {
        LittleMore x = refused();
        due("26: fails", x.fails(0, 100, 30, 30, 10), 30);
        due("26: trouble", x.trouble(), 0);
        due("26: off by 1", x.fails(0, 100, 30, 30, 6), -2);
        due("26: never isn't refused", x.trouble(), 0);
        // q needs 1 at every size: a tenth is 1, 2 up to 29, and 3 at 30.
        due("26: the first", x.fails(1, 100, 1, 400, 10), 30);
        due("26: below it", x.fails(1, 100, 1, 29, 10), -2);
        due("26: 1 at least", x.fails(1, 100, 1, 399, 400), -2);
        due("26: none of it", x.fails(1, 100, 390, 400, 400), 400);
        due("26: like ends", x.fails(1, 100, 2, 2, 1), -2);
        due("26: like ends, off", x.fails(1, 100, 3, 3, 1), 3);
        no("26: no sayer", x, x.fails(5, 100, 1, 2, 1), -1, 1);
        no("26: percent", x, x.fails(0, 0, 1, 2, 1), -1, 2);
        no("26: percent above", x, x.fails(0, 101, 1, 2, 1), -1, 2);
        no("26: from 0", x, x.fails(0, 100, 0, 2, 1), -1, 2);
        no("26: to 401", x, x.fails(0, 100, 1, 401, 1), -1, 2);
        no("26: from above to", x, x.fails(0, 100, 3, 2, 1), -1, 2);
        no("26: share 0", x, x.fails(0, 100, 1, 2, 0), -1, 2);
        no("26: share 401", x, x.fails(0, 100, 1, 2, 401), -1, 2);
    }

    private static void promise27() {
        LittleMore x = refused();
        due("27: two", x.steps(0, 100, 10, 14), 2);
        due("27: trouble", x.trouble(), 0);
        due("27: not quite", x.steps(0, 100, 10, 13), 1);
        due("27: none", x.steps(0, 100, 10, 11), 0);
        due("27: from above to", x.steps(0, 100, 14, 10), 0);
        due("27: by ones", x.steps(1, 100, 1, 400), 399);
        due("27: at the end", x.steps(1, 100, 400, 400), 0);
        no("27: no sayer", x, x.steps(5, 100, 1, 2), -1, 1);
        no("27: percent", x, x.steps(0, 101, 1, 2), -1, 2);
        no("27: from", x, x.steps(0, 100, 0, 2), -1, 2);
        no("27: to", x, x.steps(0, 100, 1, 401), -1, 2);
        no("27: to 0", x, x.steps(0, 100, 1, 0), -1, 2);
    }

    private static void promise28() {
        LittleMore x = refused();
        due("28: a quarter", x.felt(0, 25), 3);
        due("28: trouble", x.trouble(), 0);
        due("28: more", x.felt(0, 26), 4);
        due("28: all", x.felt(0, 100), 5);
        // r says 1 at size 0 already by 5 of 7: what is left is 2 of 7, 28 hundredths and a bit.
        due("28: less those of 0", x.felt(2, 28), 1);
        due("28: none", x.felt(2, 29), -2);
        due("28: none isn't refused", x.trouble(), 0);
        for (int i = 0; i < 20; i++) x.tell(0, 1, 1, 0, 0, 0);
        due("28: fresh", x.felt(0, 25), 3);
        LittleMore wide = Texts.roomOf(WIDEST);
        due("28: widest", wide.felt(0, 33), 1);
        due("28: widest, a third and more", wide.felt(0, 34), 6);
        due("28: widest, 66", wide.felt(0, 66), 6);
        due("28: widest, 67", wide.felt(0, 67), 11);
        due("28: widest by 6", wide.felt(1, 33), 2);
        LittleMore fine = Texts.roomOf("sense a floor 0 noise 9 9 9 9 9 1;sayer p of a line 10;sense b floor 399 noise 1;sayer q of b");
        // 82 of 83 are less than 99 hundredths.
        due("28: just less", fine.felt(0, 99), 16);
        due("28: just more", fine.felt(0, 98), 15);
        due("28: at 400", fine.felt(1, 100), 400);
        no("28: no sayer", x, x.felt(5, 1), -1, 1);
        no("28: percent 0", x, x.felt(0, 0), -1, 2);
        no("28: percent 101", x, x.felt(0, 101), -1, 2);
    }

    private static void promise29() {
        LittleMore x = refused();
        due("29: line 3", x.gain(0, 0, 4, 3), 1650);
        due("29: trouble", x.trouble(), 0);
        due("29: line 1", x.gain(0, 0, 4, 1), 2400);
        due("29: line 0", x.gain(0, 0, 4, 0), 1900);
        // always 1: 50 times 40, and 50 times -32.
        due("29: line -50", x.gain(0, 0, 4, -50), 400);
        due("29: line 50", x.gain(0, 0, 4, 50), -600);
        due("29: there 0", x.gain(1, 0, 4, 50), 400);
        for (int i = 0; i < 20; i++) x.tell(0, 1, 1, 0, 0, 0);
        due("29: fresh", x.gain(0, 0, 4, 3), 1650);
        no("29: no pay", x, x.gain(2, 0, 4, 0), Long.MIN_VALUE, 1);
        no("29: no sayer", x, x.gain(0, 5, 4, 0), Long.MIN_VALUE, 1);
        no("29: size 0", x, x.gain(0, 0, 0, 0), Long.MIN_VALUE, 2);
        no("29: size 401", x, x.gain(0, 0, 401, 0), Long.MIN_VALUE, 2);
        no("29: line 51", x, x.gain(0, 0, 4, 51), Long.MIN_VALUE, 2);
        no("29: line -51", x, x.gain(0, 0, 4, -51), Long.MIN_VALUE, 2);
    }

    private static void promise30() {
        LittleMore x = refused();
        due("30: the least of like ones", x.best(0, 0, 4), 1);
        due("30: trouble", x.trouble(), 0);
        due("30: all like", x.best(1, 0, 4), -50);
        LittleMore far = Texts.roomOf("sense a floor 0 noise 1;sayer p of a;pay y hit 0 miss 10 false 0 right 0 there 100;"
                + "pay z hit 10 miss 0 false 0 right 0 there 100");
        due("30: the last", far.best(0, 0, 50), 50);
        due("30: the last but one", far.best(0, 0, 49), 49);
        due("30: no further", far.best(0, 0, 51), -50);
        due("30: the first", far.best(1, 0, 50), -50);
        due("30: the line stays", x.sayer(0, 1), 3);
        no("30: no pay", x, x.best(2, 0, 4), -1000, 1);
        no("30: no sayer", x, x.best(0, 5, 4), -1000, 1);
        no("30: size 0", x, x.best(0, 0, 0), -1000, 2);
        no("30: size 401", x, x.best(0, 0, 401), -1000, 2);
    }

    private static void promise31() {
        LittleMore x = refused();
        due("31: moves", x.moves(0, 0, 4), -2);
        due("31: trouble", x.trouble(), 0);
        due("31: the line", x.sayer(0, 1), 1);
        due("31: once alone", x.moves(0, 0, 4), 0);
        due("31: far", x.moves(1, 4, 4), -100);
        due("31: its line", x.sayer(4, 1), -50);
        due("31: trials go by it", x.odds(4, 1, 0, 0, 0, 1, false), 1);
        due("31: up", x.moves(0, 4, 4), 50);
        due("31: another's line stays", x.sayer(1, 1), 0);
        no("31: no pay", x, x.moves(2, 0, 4), -1000, 1);
        no("31: no sayer", x, x.moves(0, 5, 4), -1000, 1);
        no("31: size", x, x.moves(0, 0, 401), -1000, 2);
        due("31: refused moves none", x.sayer(0, 1), 1);
    }

    private static LittleMore laws() {
        LittleMore x = Texts.roomOf("sense a line 1/1 noise 1;sense b floor 0 noise 2;sense c share 99 noise 1;"
                + "sense d floor 0 noise 1 1;sense e floor 0 noise 3 1;sense f line 1/2 noise 1");
        x.rest(0);
        return x;
    }

    private static void promise32() {
        LittleMore x = laws();
        due("32: like as parts, pair", x.parted(0, 1, 0, 1, 400), -2);
        due("32: trouble", x.trouble(), 0);
        due("32: like as parts, alone", x.parted(0, 1, 1, 0, 400), -2);
        due("32: like as parts, number", x.parted(0, 1, 3, 1, 400), -2);
        due("32: number", x.parted(0, 2, 3, 1, 400), 199000);
        due("32: number, no further", x.parted(0, 2, 3, 1, 198), -2);
        due("32: pair, by a, then b", x.parted(0, 2, 0, 1, 400), 198199);
        // 199 has the level of 198, and 201 that of 200.
        due("32: pair from 199", x.parted(0, 2, 0, 199, 400), 200201);
        due("32: alone", x.parted(0, 2, 1, 0, 400), -2);
        due("32: noise, pair", x.parted(3, 4, 0, 1, 400), 1001);
        due("32: noise, alone at 0", x.parted(3, 4, 1, 0, 400), 0);
        due("32: noise, alone from 1", x.parted(3, 4, 1, 1, 400), 1000);
        due("32: noise, alone from 2", x.parted(3, 4, 1, 2, 400), -2);
        due("32: noise, number", x.parted(3, 4, 3, 5, 9), 5000);
        due("32: halves, alone", x.parted(0, 5, 1, 0, 400), 1000);
        due("32: at both ends, pair", x.parted(0, 2, 0, 198, 199), 198199);
        due("32: one size, pair", x.parted(3, 4, 0, 7, 7), 7007);
        due("32: one size, number", x.parted(3, 4, 3, 7, 7), 7000);
        LittleMore y = Texts.roomOf("sense a floor 0 noise 1 1;sense b floor 0 noise 1 0 1;"
                + "sense c line 10/1 noise 1 0 0 0 0 1;sense d line 11/1 noise 1 0 0 0 0 1;sense e line 12/1 noise 1 0 0 0 0 1");
        // ones are two thirds by both, noughts a ninth and a third.
        due("32: by 0 alone", y.parted(0, 1, 0, 1, 2), 1002);
        due("32: the widest lead", y.parted(2, 3, 0, 1, 2), 1002);
        due("32: beyond the widest", y.parted(3, 4, 0, 1, 2), -2);
        due("32: itself", x.parted(3, 3, 0, 1, 400), -2);
        no("32: no sense", x, x.parted(6, 0, 0, 1, 2), -1, 1);
        no("32: no other", x, x.parted(0, -1, 0, 1, 2), -1, 1);
        for (int kind : new int[] {-1, 2, 4, 5, 6}) no("32: kind " + kind, x, x.parted(0, 1, kind, 0, 999), -1, 1);
        no("32: pair from 0", x, x.parted(0, 1, 0, 0, 2), -1, 2);
        no("32: number from 0", x, x.parted(0, 1, 3, 0, 2), -1, 2);
        no("32: alone from -1", x, x.parted(0, 1, 1, -1, 2), -1, 2);
        no("32: to 401", x, x.parted(0, 1, 1, 1, 401), -1, 2);
        no("32: from above to", x, x.parted(0, 1, 1, 3, 2), -1, 2);
    }

    private static void promise33() {
        LittleMore x = laws();
        due("33: at once", x.fewest(0, 2, 198, 199), 1);
        due("33: trouble", x.trouble(), 0);
        due("33: never", x.fewest(0, 1, 198, 199), -2);
        due("33: never isn't refused", x.trouble(), 0);
        // of d 10, 10: 1 has 3 of 9: none of n has (2 / 3) to the n, below a fortieth from 10 on.
        due("33: ten", x.fewest(3, 0, 10, 10), 10);
        due("33: turned round", x.fewest(0, 3, 10, 10), 10);
        LittleMore y = Texts.roomOf("sense a floor 0 noise 4 3;sense b floor 0 noise 1");
        // by a 11, 10 is 1 by 9 of 100; 0.91 to the 39th is above a fortieth, to the 40th below.
        due("33: forty", y.fewest(0, 1, 11, 10), 40);
        no("33: no sense", x, x.fewest(6, 0, 1, 1), -1, 1);
        no("33: no other", x, x.fewest(0, 6, 1, 1), -1, 1);
        no("33: a", x, x.fewest(0, 0, 0, 1), -1, 2);
        no("33: b", x, x.fewest(0, 0, 1, 401), -1, 2);
    }

    private static void promise34() {
        LittleMore x = laws();
        due("34: match", x.match(0, 10, 5), 20);
        due("34: trouble", x.trouble(), 0);
        due("34: the least size", x.match(5, 21, 5), 20);
        due("34: to itself", x.match(0, 21, 0), 21);
        due("34: of two like levels the lesser", x.match(0, 198, 2), 198);
        due("34: of two like far levels the lesser", Texts.roomOf("sense a floor 0 noise 1;sense b line 2/1 noise 1").match(0, 5, 1), 2);
        due("34: no further than 400", x.match(0, 400, 5), 400);
        due("34: 1 at least", x.match(5, 1, 0), 1);
        no("34: no sense", x, x.match(6, 1, 0), -1, 1);
        no("34: no other", x, x.match(0, 1, 6), -1, 1);
        no("34: size 0", x, x.match(0, 0, 0), -1, 2);
        no("34: size 401", x, x.match(0, 401, 0), -1, 2);
    }

    private static void promise35() {
        LittleMore x = laws();
        due("35: closes", x.closes(0, 5, 0, 10), 0);
        due("35: trouble", x.trouble(), 0);
        due("35: doesn't", x.closes(5, 0, 5, 21), -1);
        due("35: three", x.closes(2, 0, 5, 199), -1);
        due("35: up", x.closes(5, 0, 0, 1), 1);
        no("35: no sense", x, x.closes(6, 0, 0, 1), -1000, 1);
        no("35: no other", x, x.closes(0, 6, 0, 1), -1000, 1);
        no("35: no third", x, x.closes(0, 0, 6, 1), -1000, 1);
        no("35: size 0", x, x.closes(0, 0, 0, 0), -1000, 2);
        no("35: size 401", x, x.closes(0, 0, 0, 401), -1000, 2);
    }

    private static void promise36() {
        LittleMore x = refused();
        due("36: back", x.stair(0, 5, 1, 2, 5), 4);
        due("36: trouble", x.trouble(), 0);
        due("36: down", x.stair(0, 5, 1, 2, 3), 12);
        due("36: never", x.stair(0, 5, 1, 2, 4), 0);
        due("36: from 400", x.stair(4, 400, 1, 1, 399), 1);
        due("36: from 1", x.stair(4, 1, 1, 1, 2), 1);
        due("36: within 1", x.stair(0, 5, 400, 1, 1), 4);
        due("36: within 400", x.stair(4, 5, 400, 1, 400), 1);
        for (int i = 0; i < 20; i++) x.tell(0, 1, 1, 0, 0, 0);
        due("36: fresh", x.stair(0, 5, 1, 2, 3), 12);
        LittleMore y = Texts.roomOf("sense a floor 399 noise 9 9 9 9 9 9;sayer p of a line 50");
        due("36: 99 to the 9th", y.stair(0, 1, 1, 9, 10), 913517247483640899L);
        no("36: no sayer", x, x.stair(5, 1, 1, 1, 1), -1, 1);
        no("36: start", x, x.stair(0, 0, 1, 1, 1), -1, 2);
        no("36: start above", x, x.stair(0, 401, 1, 1, 1), -1, 2);
        no("36: step", x, x.stair(0, 1, 0, 1, 1), -1, 2);
        no("36: step above", x, x.stair(0, 1, 401, 1, 1), -1, 2);
        no("36: n 0", x, x.stair(0, 1, 1, 0, 1), -1, 2);
        no("36: n 10", x, x.stair(0, 1, 1, 10, 1), -1, 2);
        no("36: end", x, x.stair(0, 1, 1, 1, 0), -1, 2);
        no("36: end above", x, x.stair(0, 1, 1, 1, 401), -1, 2);
    }

    private static void promise37() {
        LittleMore x = refused();
        due("37: nothing", x.image(0), 0);
        due("37: trouble", x.trouble(), 0);
        x.tell(0, 1, 1, 0, 0, 0);
        x.rest(0);
        x.tell(0, 1, 1, 0, 0, 0);
        x.tell(0, 1, 1, 0, 0, 0);
        x.seed(65536);
        due("37: image", x.image(0), 65536 + 65537L * (2 + 4096 * 3));
        due("37: another's", x.image(1), 65536);
        no("37: no sayer", x, x.image(5), -1, 1);
        x.restore(0, 65537L * 4096 * 4095);
        due("37: 4,095", x.image(0), 65537L * 4096 * 4095);
        x.tell(0, 1, 1, 0, 0, 0);
        no("37: 4,096", x, x.image(0), -1, 3);
    }

    private static void promise38() {
        LittleMore x = refused();
        for (int i = 0; i < 7; i++) x.trial(0, 1, 4, 0, 0);
        long image = x.image(0);
        int[] later = new int[9];
        for (int i = 0; i < 9; i++) later[i] = x.trial(0, 0, 10, 10, 0);
        due("38: restores", x.restore(0, image), true);
        due("38: trouble", x.trouble(), 0);
        due("38: the book stays", x.size(4), 16);
        for (int i = 0; i < 9; i++) due("38: goes on " + i, x.trial(0, 0, 10, 10, 0), later[i]);
        due("38: in all", x.sayer(0, 5), 16);
        due("38: nothing", x.restore(1, 0), true);
        due("38: nothing's seed", x.size(5), 0);
        due("38: the greatest", x.restore(1, 65536 + 65537L * (4095 + 4096L * 4095)), true);
        due("38: its seed", x.size(5), 65536);
        due("38: its trials", x.sayer(1, 5), 4095);
        due("38: since", x.sayer(1, 6), 4095);
        no("38: no sayer", x, x.restore(5, 0) ? 1 : 0, 0, 1);
        no("38: no sayer ahead of below 0", x, x.restore(5, -1) ? 1 : 0, 0, 1);
        no("38: below 0", x, x.restore(1, -1) ? 1 : 0, 0, 2);
        no("38: far below 0", x, x.restore(1, Long.MIN_VALUE) ? 1 : 0, 0, 2);
        no("38: since above all", x, x.restore(1, 65537L * (2 + 4096)) ? 1 : 0, 0, 2);
        no("38: above 4,095", x, x.restore(1, 65537L * 4096 * 4096) ? 1 : 0, 0, 2);
        no("38: far above", x, x.restore(1, Long.MAX_VALUE) ? 1 : 0, 0, 2);
        due("38: refused changes none", x.sayer(1, 5), 4095);
    }

    private static void promise39() {
        LittleMore x = hall();
        x.run(0, 1);
        x.seed(9);
        x.rest(-1);
        due("39: had", x.clear(), 6);
        due("39: no trouble of its own", x.trouble(), 1);
        due("39: empty", x.size(4), 0);
        due("39: again", x.clear(), 0);
        due("39: seed stays", x.size(5), 9);
        due("39: trials stay", x.sayer(1, 5), 6);
        due("39: no row", x.book(0, 0), -1);
        due("39: no cell", x.count(1, 1, 10, 0, 0, -1), 0);
        due("39: nothing to judge by", x.lineOf(1, 1, true), 50);
        x.tell(1, 1, 10, 0, 0, 0);
        due("39: counted anew", x.lineOf(1, 1, false), 5);
    }

    private static void promise40() {
        LittleMore x = hall();
        x.tell(0, 3, 1, 0, 0, 70);
        x.tell(1, 3, 1, 0, 0, 71);
        x.tell(0, 3, 1, 0, 0, 72);
        x.rest(-1);
        due("40: first", leds(x, 0, 0), 70);
        due("40: second", leds(x, 0, 1), 72);
        due("40: another's", leds(x, 1, 0), 71);
        due("40: behind", leds(x, 0, 2), -99);
        due("40: ahead", leds(x, 0, -1), -99);
        due("40: none yet", leds(x, 2, 0), -99);
        due("40: no sayer", leds(x, 9, 0), -99);
        due("40: no sayer below", leds(x, -1, 0), -99);
        due("40: no room", leds(new LittleMore(), 0, 0), -99);
        due("40: no trouble of its own", x.trouble(), 1);
    }

    private static void promise41() {
        LittleMore x = hall();
        x.trial(0, 1, 1, 0, 0);
        x.feed(0, 0, 0, 0, 0);
        int[] sizes = {4, 5, 4, 2, 1, 74, 20};
        for (int what = 0; what <= 6; what++) due("41: " + what, x.size(what), sizes[what]);
        due("41: others", x.size(7), -1);
        due("41: others below", x.size(-1), -1);
        due("41: far", x.size(Integer.MIN_VALUE), -1);
    }

    private static void promise42() {
        LittleMore x = new LittleMore();
        due("42: new", x.trouble(), 0);
        x.rest(0);
        due("42: 1", x.trouble(), 1);
        due("42: asked again", x.trouble(), 1);
        x.feed(0, 0, 0, 0, 0);
        x.fault();
        x.where();
        x.level(9, 9);
        x.noise(9, 9);
        x.sayer(9, 9);
        x.book(9, 9);
        x.clear();
        leds(x, 0, 0);
        x.size(0);
        due("42: these don't count", x.trouble(), 1);
        x.seed(-1);
        due("42: 2", x.trouble(), 2);
        x.room(20);
        due("42: 4", x.trouble(), 4);
        x.seed(0);
        due("42: 0", x.trouble(), 0);
    }

    public static void main(String[] args) {
        promise1(); promise2(); promise3(); promise4(); promise5(); promise6(); promise7();
        promise8(); promise9(); promise10(); promise11(); promise12(); promise13(); promise14();
        promise15(); promise16(); promise17(); promise18(); promise19(); promise20(); promise21();
        promise22(); promise23(); promise24(); promise25(); promise26(); promise27(); promise28();
        promise29(); promise30(); promise31(); promise32(); promise33(); promise34(); promise35();
        promise36(); promise37(); promise38(); promise39(); promise40(); promise41(); promise42();
        System.out.println(seen + " answers, " + wrong + " not as due");
        if (wrong != 0) System.exit(1);
    }
}
