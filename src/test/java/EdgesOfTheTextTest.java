/**
 * Terms I, THE TEXT, and promises 1 to 5, sentence by sentence.
 * In a text ^ stands ahead of the place of the fault that is due, and isn't part of it.
 */
public final class EdgesOfTheTextTest {
    private static final String A = "sense a line 1/1 noise 1";
    private static final int MIN = Integer.MIN_VALUE;
    private static final int MAX = Integer.MAX_VALUE;

    private static void good(String text) {
        LittleMore x = new LittleMore();
        x.rest(0);
        int senses = Texts.room(x, text);
        Told.due("room of " + text, senses >= 1 && senses == x.size(0), true);
        Told.due("fault of " + text, x.fault(), 0);
        Told.due("where of " + text, x.where(), -1);
        Told.due("trouble of " + text, x.trouble(), 0);
    }

    private static void fault(int number, String marked) {
        int place = marked.indexOf('^');
        String text = marked.substring(0, place) + marked.substring(place + 1);
        LittleMore x = new LittleMore();
        Told.due("room of " + text, Texts.room(x, text), -1);
        Told.due("fault of " + text, x.fault(), number);
        Told.due("where of " + text, x.where(), place);
        Told.due("trouble of " + text, x.trouble(), 4);
    }

    /** WHOLES from one to another are good at a place that # stands for; those around it are a fault 4 there. */
    private static void bounds(String ahead, String behind, int from, int to) {
        good(ahead + from + behind);
        good(ahead + to + behind);
        if (from > 0) fault(4, ahead + "^" + (from - 1) + behind);
        if (to < 999) fault(4, ahead + "^" + (to + 1) + behind);
        if (to < 999) fault(4, ahead + "^999" + behind);
        fault(1, ahead + "^" + (to < 999 ? "1000" : "0999") + behind);
    }

    private static void tokens() {
        Told.says("I", "THE TAPE has 700 bytes");
        good(A + Told.times(" ", 700 - A.length()));
        fault(1, A + Told.times(" ", 699 - A.length()) + "^x");

        Told.says("I", "blanks, 32, part TOKENS and mean nothing else");
        good("  sense   a  line  1  /  1  noise  1  2  ");
        good("sense a line1/1noise1;sayer p of a likes1,2;sayer q of a likes 1 , 2");
        good(" " + A + " ; " + A.replace('a', 'b'));
        fault(1, "^sen se a line 1/1 noise 1");
        fault(1, "^sensea line 1/1 noise 1");
        fault(1, A + ";sayer p of a ^gu ess");
        good("sense a line 1/1 noise 1 0");
        fault(4, "sense a line 1/1 noise ^10");
        for (int sign : new int[] {0, 1, 9, 10, 13, 31, 33, 95, 127, 128, 160, 255}) {
            fault(1, A + "^" + (char) sign);
            fault(1, "sense^" + (char) sign + "a line 1/1 noise 1");
            fault(1, "^" + (char) sign + A);
        }

        Told.says("I", "WORDS of 1 to 8 small letters that stand together");
        good("sense z line 1/1 noise 1");
        good("sense azazazaz line 1/1 noise 1");
        good("sense abcdefgh line 1/1 noise 1;sense abcdefgi line 1/1 noise 1;sense bbcdefgh line 1/1 noise 1;sense a line 1/1 noise 1;"
            + "sense aa line 1/1 noise 1");
        fault(1, "sense ^azazazaza line 1/1 noise 1");
        fault(1, "^sensesens a line 1/1 noise 1");
        fault(1, "sense ^A line 1/1 noise 1");
        fault(1, "sense ^Z line 1/1 noise 1");
        fault(1, "sense a^` line 1/1 noise 1");
        fault(1, "sense a^{ line 1/1 noise 1");
        fault(1, "sense a^@ line 1/1 noise 1");
        fault(1, "sense a^[ line 1/1 noise 1");
        // as many letters of the word guess behind it as turn a code of 64 bits round
        fault(1, A + ";sayer p of a ^bbbbbbbbbbbbbbbbbbguess");

        Told.says("I", "WHOLES of 1 to 3 digits that do");
        good("sense a line 1/01 noise 001 009 00 0");
        fault(1, "sense a line ^0001/1 noise 1");
        fault(1, "sense a line 1/1 noise ^0001");
        // four digits whose value is the sign of / , or ;
        fault(1, "sense a line 1 ^0047 1 noise 1");
        fault(1, A + ";sayer p of a likes 1 ^0044 2");
        fault(1, "plan u up 1 to 1 by 1 times 1 ^0059 " + A);
        fault(1, "sense a line ^4294967297/1 noise 1");
        fault(1, "sense a line ^18446744073709551617/1 noise 1");
        fault(1, "sense a line 1/1 noise ^" + Told.times("0", 600) + "1");
        fault(1, "sense a line 1/1 noise 9^:");
        fault(1, "sense a line 1/1 noise 1 0^.");

        Told.says("I", "single ones of ; , /");
        fault(1, "sense a line 1/^/1 noise 1");
        fault(1, A + ";sayer p of a likes 1,^,2");
        fault(1, A + ";^;sayer p of a");
        fault(1, "sense a line 1^,1 noise 1");
        fault(1, "sense a line 1^;1 noise 1");
        fault(1, A + ";sayer p of a likes 1^/2");

        Told.says("I", "the first byte that begins no TOKEN (of more letters, digits that stand together: the first of them)");
        fault(1, "sense a line 1/1 noise ^1234");
        fault(1, "sense a line 1/1 noise 1 ^abcdefghi!");
        fault(1, "^!sense a line 1/1 noise 1");
        fault(1, A + " 1^!?");
        fault(4, "sense a line ^0/1 noise 1 !");

        Told.says("I", "TOKEN with which no ROOM goes on (the end: its place)");
        goesOn("sense a share 2 then power 1 / 3 then line 4 / 5 then floor 6 noise 1 | 0 | 9 | ; sayer p of a | line less 5 | second 4 | tires 3 "
            + "| learns 2 | guess | likes 7 | , 8 | ; plan u mixed 1 to 9 by 2 times 3 | ; pay y hit 1 miss less 2 false 3 right 4 there 5 "
            + "| ; sayer q of a | line 1 | tires 9 | likes 0 | ; sayer r of a | second less 0 | learns 9 | ; sayer s of a | guess | ; plan v up 2 "
            + "to 2 by 2 times 2 | ; plan w down 3 to 4 by 1 times 1");
        good("sense a line 1/1 noise 1");
        fault(1, "sense a line 1/1 noise^");
        fault(1, "sense a line 1/1 noise  ^");
        fault(1, "^");
        fault(1, "   ^");
        fault(1, A + " ^likes 1");
        fault(1, A + " ^sense b line 1/1 noise 1");
    }

    /** | is ahead of TOKENS where the text may end. Cut ahead of any other one, or with something else in its place, it is a FORM there. */
    private static void goesOn(String text) {
        StringBuilder sofar = new StringBuilder();
        String[] all = text.split(" ");
        boolean mayEnd = false;
        for (int i = 0; i < all.length; i++) {
            if (all[i].equals("|")) {
                mayEnd = true;
                continue;
            }
            if (mayEnd) {
                good(sofar.toString());
                good(sofar + "  ");
            } else if (i > 0) {
                fault(1, sofar + "^");
                fault(1, sofar + "  ^");
            }
            String blank = i == 0 ? "" : " ";
            String rest = text.substring(sofar.length()).replace("| ", "");
            for (String other : new String[] {"!", "abcdefghi", "1234", "zz", "/"}) {
                if (!all[i].equals(other) && !(other.equals("zz") && isName(all, i))) fault(1, sofar + blank + "^" + other + " " + all[i]);
            }
            sofar.append(blank).append(all[i]);
            mayEnd = false;
        }
        good(sofar.toString());
    }

    private static boolean isName(String[] all, int i) {
        return i > 0 && (all[i - 1].matches("sense|sayer|plan|pay") || all[i - 1].equals("of"));
    }

    private static void lines() {
        Told.says("I", "LINE {; LINE}");
        good(A);
        good(A + ";sayer p of a;" + A.replace('a', 'b'));
        fault(1, "^;" + A);
        fault(1, A + ";^");
        fault(1, A + ";^;" + A.replace('a', 'b'));
        fault(1, A + "^," + A.replace('a', 'b'));

        Told.says("I", "sense NAME STEP {then STEP} noise WHOLE {WHOLE} (1 to 4 STEPS");
        fault(1, "sense a ^noise 1");
        good("sense a floor 0 then floor 0 then floor 0 then floor 0 noise 1");
        fault(1, "sense a floor 0 then ^noise 1");
        fault(1, "sense a ^then floor 0 noise 1");
        fault(1, "sense a floor 0 ^floor 0 noise 1");

        Told.says("I", "1 to 6 WHOLES: the first 1 .. 9, others 0 .. 9)");
        fault(1, "sense a floor 0 noise^");
        good("sense a floor 0 noise 1 0 0 0 0 0");
        bounds("sense a floor 0 noise ", "", 1, 9);
        bounds("sense a floor 0 noise 1 ", "", 0, 9);
        bounds("sense a floor 0 noise 9 9 9 9 9 ", "", 0, 9);

        Told.says("I", "STEP: share WHOLE (2 .. 99), power WHOLE / WHOLE (1 .. 3 each), line WHOLE / WHOLE (1 .. 99 each), floor WHOLE (0 .. 399)");
        bounds("sense a share ", " noise 1", 2, 99);
        bounds("sense a power ", "/1 noise 1", 1, 3);
        bounds("sense a power 1/", " noise 1", 1, 3);
        bounds("sense a line ", "/1 noise 1", 1, 99);
        bounds("sense a line 1/", " noise 1", 1, 99);
        bounds("sense a floor ", " noise 1", 0, 399);
        bounds("sense a floor 1 then share ", " noise 1", 2, 99);
        fault(1, "sense a share 3^/1 noise 1");
        fault(1, "sense a floor 3^/1 noise 1");
        fault(1, "sense a power 3 ^noise 1");

        Told.says("I", "sayer NAME of NAME (a SENSE), behind it perhaps line SIGNED, then perhaps second SIGNED, then perhaps tires WHOLE, "
            + "then perhaps learns WHOLE, then perhaps guess, then perhaps likes WHOLE {, WHOLE}");
        String[] habits = {" line 1", " second 2", " tires 3", " learns 4", " guess", " likes 5"};
        for (int set = 0; set < 64; set++) {
            StringBuilder text = new StringBuilder(A + ";sayer p of a");
            for (int i = 0; i < 6; i++) if ((set >> i & 1) == 1) text.append(habits[i]);
            good(text.toString());
        }
        for (int i = 0; i < 6; i++) {
            for (int j = 0; j <= i; j++) fault(1, A + ";sayer p of a" + habits[i] + " ^" + habits[j].substring(1));
        }

        Told.says("I", "SIGNED: WHOLE, or less WHOLE (0 .. 50)");
        for (String habit : new String[] {"line ", "second "}) {
            bounds(A + ";sayer p of a " + habit, "", 0, 50);
            bounds(A + ";sayer p of a " + habit + "less ", "", 0, 50);
            fault(1, A + ";sayer p of a " + habit + "less ^less 1");
        }

        Told.says("I", "tires WHOLE, then perhaps learns WHOLE (1 .. 99 each)");
        bounds(A + ";sayer p of a tires ", "", 1, 99);
        bounds(A + ";sayer p of a learns ", "", 1, 99);
        fault(1, A + ";sayer p of a tires ^less 1");
        fault(1, A + ";sayer p of a learns ^less 1");

        Told.says("I", "likes WHOLE {, WHOLE} (0 .. 999, up to 6, unlike)");
        bounds(A + ";sayer p of a likes ", "", 0, 999);
        bounds(A + ";sayer p of a likes 1,2,3,4,5,", "", 0, 999);
        fault(1, A + ";sayer p of a likes ^less 1");
        fault(1, A + ";sayer p of a likes 1,^");
    }

    private static void plansAndPays() {
        Told.says("I", "plan NAME HOW WHOLE to WHOLE by WHOLE times WHOLE. HOW: up, down, mixed");
        for (String how : new String[] {"up", "down", "mixed"}) good(A + ";plan u " + how + " 1 to 2 by 1 times 1");
        fault(1, A + ";plan u ^less 1 to 2 by 1 times 1");
        fault(1, A + ";plan u ^1 to 2 by 1 times 1");
        fault(1, A + ";plan u up ^less 1 to 2 by 1 times 1");

        Told.says("I", "sizes from the first (1 .. 400) to the second (not below it, up to 400)");
        bounds(A + ";plan u up ", " to 400 by 400 times 1", 1, 400);
        bounds(A + ";plan u up 7 to ", " by 400 times 1", 7, 400);
        bounds(A + ";plan u down 400 to ", " by 1 times 1", 400, 400);
        fault(4, A + ";plan u mixed 7 to ^0 by 1 times 1");

        Told.says("I", "by 1 .. 400, each 1 .. 20 times");
        bounds(A + ";plan u up 7 to 8 by ", " times 1", 1, 400);
        bounds(A + ";plan u up 7 to 8 by 1 times ", "", 1, 20);

        Told.says("I", "no more than 200 TRIALS; a plan's TRIALS above 200: at times' WHOLE");
        good(A + ";plan u up 1 to 200 by 1 times 1");
        good(A + ";plan u up 1 to 10 by 1 times 20");
        good(A + ";plan u up 1 to 400 by 2 times 1");
        good(A + ";plan u up 1 to 33 by 1 times 6");
        fault(4, A + ";plan u up 1 to 201 by 1 times ^1");
        fault(4, A + ";plan u down 1 to 11 by 1 times ^20");
        fault(4, A + ";plan u mixed 1 to 400 by 1 times ^1");
        fault(4, A + ";plan u up 1 to 33 by 1 times ^7");
        fault(4, A + ";plan u up 1 to 101 by 1 times ^2");
        good(A + ";plan u up 1 to 100 by 1 times 2");
        fault(4, A + ";plan u up 1 to 201 by 1 times ^0");
        fault(4, A + ";plan u up 1 to 201 by 1 times ^21");
        fault(1, A + ";plan u up 1 to 201 by 1 times^");
        fault(1, A + ";plan u up 1 to 201 by 1 ^1");

        Told.says("I", "pay NAME hit AMOUNT miss AMOUNT false AMOUNT right AMOUNT there WHOLE. AMOUNT: WHOLE, or less WHOLE (0 .. 99); there 0 .. 100");
        String[] ahead = {" hit ", " miss ", " false ", " right "};
        for (int i = 0; i < 4; i++) {
            String before = A + ";pay y";
            String behind = "";
            for (int j = 0; j < 4; j++) {
                if (j < i) before += ahead[j] + j;
                else if (j > i) behind += ahead[j] + j;
            }
            bounds(before + ahead[i], behind + " there 7", 0, 99);
            bounds(before + ahead[i] + "less ", behind + " there 7", 0, 99);
            fault(1, before + ahead[i] + "less ^less 1" + behind + " there 7");
        }
        bounds(A + ";pay y hit 1 miss 1 false 1 right 1 there ", "", 0, 100);
        fault(1, A + ";pay y hit 1 miss 1 false 1 right 1 there ^less 1");
    }

    private static void names() {
        Told.says("I", "NAMES are WORDS but sense, sayer, plan, pay, then, noise, line, less, to, by, likes, guess");
        for (String kept : "sense sayer plan pay then noise line less to by likes guess".split(" ")) {
            fault(1, "sense ^" + kept + " line 1/1 noise 1");
            fault(1, A + ";sayer ^" + kept + " of a");
            fault(1, A + ";sayer p of ^" + kept);
            fault(1, A + ";plan ^" + kept + " up 1 to 1 by 1 times 1");
            fault(1, A + ";pay ^" + kept + " hit 1 miss 1 false 1 right 1 there 1");
        }
        for (String free : "share power floor of second tires learns up down mixed times hit miss false right there the sens senses".split(" ")) {
            good("sense " + free + " line 1/1 noise 1;sayer p of " + free);
            good(A + ";sayer " + free + " of a");
            good(A + ";plan " + free + " up 1 to 1 by 1 times 1");
            good(A + ";pay " + free + " hit 1 miss 1 false 1 right 1 there 1");
        }

        Told.says("I", "each told once, ahead of its use; 2 a NAME that isn't told, or no SENSE's; at it");
        fault(2, A + ";sayer p of ^b");
        fault(2, A + ";sayer p of ^p");
        fault(2, A + ";sayer p of ^b;sense b line 1/1 noise 1");
        fault(2, "sayer p of ^a;" + A);
        fault(2, A + ";sayer p of a;sayer q of ^p");
        fault(2, A + ";plan u up 1 to 1 by 1 times 1;sayer q of ^u");
        fault(2, A + ";pay y hit 1 miss 1 false 1 right 1 there 1;sayer q of ^y");
        fault(2, A + ";sayer p of ^aa");

        Told.says("I", "3 a NAME told again; at it");
        String[] line = {"sense # line 1/1 noise 1", "sayer # of a", "plan # up 1 to 1 by 1 times 1", "pay # hit 1 miss 1 false 1 right 1 there 1"};
        for (String one : line) {
            for (String other : line) fault(3, A + ";" + one.replace("#", "x") + ";" + other.replace("#", "^x"));
            fault(3, A + ";" + one.replace("#", "^a"));
        }
        String all = "plan b up 1 to 1 by 1 times 1;" + A + ";sense c line 1/1 noise 1";
        for (String again : "a b c".split(" ")) fault(3, all + ";sense ^" + again + " line 1/1 noise 1");

        Told.says("I", "3 a liked number told again; at it");
        fault(3, A + ";sayer p of a likes 7,^7");
        fault(3, A + ";sayer p of a likes 7,8,9,^007");
        fault(3, A + ";sayer p of a likes 1,2,3,4,5,^5");
        fault(3, A + ";sayer p of a likes 0,^00");
        good(A + ";sayer p of a likes 7,8;sayer q of a likes 7,8");
    }

    private static void many() {
        String[] line = {"sense # line 1/1 noise 1", "sayer # of a", "plan # up 1 to 1 by 1 times 1", "pay # hit 1 miss 1 false 1 right 1 there 1"};
        int[] room = {5, 6, 4, 4};
        Told.says("I", "Up to 6 SENSES, 6 SAYERS, 4 plans, 4 pays; 5 MANY: a LINE more of its sort than there is room for, at its first WORD");
        for (int sort = 0; sort < 4; sort++) {
            StringBuilder text = new StringBuilder(A);
            for (int i = 0; i < room[sort]; i++) text.append(';').append(line[sort].replace("#", "" + (char) ('f' + i)));
            good(text.toString());
            fault(5, text + ";^" + line[sort].replace("#", "x"));
            fault(5, text + "; ^" + line[sort].split(" ")[0]);
            fault(5, text + ";^" + line[sort].replace("#", "a"));
            fault(5, text + ";^" + line[sort].replace("#", "!"));
            for (int other = 0; other < 4; other++) if (other != sort) good(text + ";" + line[other].replace("#", "x"));
        }
        good("sense a floor 0 noise 1;sense b floor 0 noise 1;sense c floor 0 noise 1;sense d floor 0 noise 1;sense e floor 0 noise 1;"
            + "sense f floor 0 noise 1;sayer g of a;sayer h of b;sayer i of c;sayer j of d;sayer k of e;sayer l of f;"
            + "plan m up 1 to 1 by 1 times 1;plan n up 1 to 1 by 1 times 1;plan o up 1 to 1 by 1 times 1;plan p up 1 to 1 by 1 times 1;"
            + "pay q hit 1 miss 1 false 1 right 1 there 1;pay r hit 1 miss 1 false 1 right 1 there 1;"
            + "pay s hit 1 miss 1 false 1 right 1 there 1;pay t hit 1 miss 1 false 1 right 1 there 1");

        Told.says("I", "5 MANY: a fifth STEP, at its first WORD");
        String four = "sense a floor 0 then floor 0 then floor 0 then floor 0";
        good(four + " noise 1");
        for (String step : new String[] {"share 3", "power 1/1", "line 1/1", "floor 0", "share", "floor !", "line 0/1"}) {
            fault(5, four + " then ^" + step + " noise 1");
        }
        good(four + " noise 1;sense b floor 0 then floor 0 then floor 0 then floor 0 noise 1");

        Told.says("I", "5 MANY: a seventh WHOLE of noise, a seventh liked number, at it");
        good("sense a floor 0 noise 1 1 1 1 1 1");
        fault(5, "sense a floor 0 noise 1 1 1 1 1 1 ^1");
        fault(5, "sense a floor 0 noise 1 1 1 1 1 1 ^9");
        fault(5, "sense a floor 0 noise 1 1 1 1 1 1 ^0 !");
        good(A + ";sayer p of a likes 1,2,3,4,5,6");
        fault(5, A + ";sayer p of a likes 1,2,3,4,5,6,^7");
        fault(5, A + ";sayer p of a likes 1,2,3,4,5,6,^999");
        fault(1, A + ";sayer p of a likes 1,2,3,4,5,6,^");
        good(A + ";sayer p of a likes 1,2,3,4,5,6;sayer q of a likes 1,2,3,4,5,6");
    }

    private static void order() {
        Told.says("I", "FAULTS, the first that is met from the left");
        fault(4, "sense a share ^1 noise 0 !");
        fault(1, "sense a share 2 ^! noise 0");
        fault(2, A + ";sayer p of ^b likes 1,1");
        fault(3, A + ";sayer ^a of b");
        fault(5, "sense a floor 0 then floor 0 then floor 0 then floor 0 then ^floor 400 noise 0");
        fault(1, A + ";plan u up ^to 401");
        fault(4, A + ";plan u up ^401 to 0");
        fault(2, "sayer p of ^a;plan u up 1 to 1 by 1 times 1");

        Told.says("I", "of one place the least number");
        fault(1, "^");
        fault(1, "plan u up 1 to 1 by 1 times 1;^");
        fault(1, "plan u up 1 to 1 by 1 times^");
        fault(4, "sense a floor 0 noise 1 1 1 1 1 1 ^10");
        fault(1, "sense a floor 0 noise 1 1 1 1 1 1 ^1000");
        fault(3, A + ";sayer p of a likes 1,2,3,4,5,6,^6");
        fault(1, A + ";sayer p of a likes 1,2,3,4,5,6,^0006");
        fault(1, A + ";sayer p of ^line");

        Told.says("I", "6 LACKS, at the end: no SENSE");
        fault(6, "plan u up 1 to 1 by 1 times 1^");
        fault(6, "plan u up 1 to 1 by 1 times 1  ^");
        fault(6, "pay y hit 1 miss 1 false 1 right 1 there 1;plan u up 1 to 1 by 1 times 1^");
        good("plan u up 1 to 1 by 1 times 1;" + A);
    }

    private static LittleMore some() {
        LittleMore x = Texts.roomOf("sense a line 1/1 noise 1 1;sense b line 1/2 noise 1;sayer p of a line 3 tires 2;sayer q of b;"
            + "plan u up 1 to 3 by 1 times 1;pay y hit 1 miss 1 false 1 right 1 there 1");
        x.run(0, 0);
        x.tell(1, 3, 9, 0, 0, 4);
        x.feed(0x73656e73, 0, 0, 0, 0);
        return x;
    }

    private static void promise1() {
        Told.says("1", "No ROOM; SEED 0");
        for (int what = 0; what <= 6; what++) Told.due("size " + what, new LittleMore().size(what), 0);
        LittleMore x = new LittleMore();
        Told.due("trouble", x.trouble(), 0);
        Told.due("fault", x.fault(), 0);
        Told.due("where", x.where(), -1);
        Told.due("level", x.level(0, 0), -1);
        Told.due("noise", x.noise(0, 0), -1);
        Told.due("sayer", x.sayer(0, 0), -1000);
        Told.due("book", x.book(0, 0), -1);
        Told.due("clear", x.clear(), 0);
        Told.refusedBy("rest", LittleMore::new, y -> y.rest(0), 1);
        Told.refused("odds", LittleMore::new, y -> y.odds(0, 0, 1, 1, 0, 0, true), -1, 1);
        Told.refused("trial", LittleMore::new, y -> y.trial(0, 1, 1, 0, 0), -1, 1);
        Told.refused("tell", LittleMore::new, y -> y.tell(0, 1, 1, 0, 0, 0), -1, 1);
        Told.refused("run", LittleMore::new, y -> y.run(0, 0), -1, 1);
        Told.refused("climb", LittleMore::new, y -> y.climb(0, 1, 1, 1), -1, 1);
        Told.refused("count", LittleMore::new, y -> y.count(0, 1, 1, 0, 0, 0), -1, 1);
        Told.refused("lets", LittleMore::new, y -> y.lets(0, 0, 0, 0), -1, 1);
        Told.refused("fits", LittleMore::new, y -> y.fits(0), -1, 1);
        Told.refused("fitAt", LittleMore::new, y -> y.fitAt(0, 0, 0), -1000, 1);
        Told.refused("verdict", LittleMore::new, y -> y.verdict(0, 0), -1, 1);
        Told.refused("lineOf", LittleMore::new, y -> y.lineOf(0, 0, true), -1000, 1);
        Told.refused("secondOf", LittleMore::new, y -> y.secondOf(0, 0, true), -1000, 1);
        Told.refused("more", LittleMore::new, y -> y.more(0, 1, 1), -1, 1);
        Told.refused("fails", LittleMore::new, y -> y.fails(0, 1, 1, 1, 1), -1, 1);
        Told.refused("steps", LittleMore::new, y -> y.steps(0, 1, 1, 1), -1, 1);
        Told.refused("felt", LittleMore::new, y -> y.felt(0, 1), -1, 1);
        Told.refused("gain", LittleMore::new, y -> y.gain(0, 0, 1, 0), Long.MIN_VALUE, 1);
        Told.refused("best", LittleMore::new, y -> y.best(0, 0, 1), -1000, 1);
        Told.refused("moves", LittleMore::new, y -> y.moves(0, 0, 1), -1000, 1);
        Told.refused("parted", LittleMore::new, y -> y.parted(0, 0, 0, 1, 1), -1, 1);
        Told.refused("fewest", LittleMore::new, y -> y.fewest(0, 0, 1, 1), -1, 1);
        Told.refused("match", LittleMore::new, y -> y.match(0, 1, 0), -1, 1);
        Told.refused("closes", LittleMore::new, y -> y.closes(0, 0, 0, 1), -1000, 1);
        Told.refused("stair", LittleMore::new, y -> y.stair(0, 1, 1, 1, 1), -1, 1);
        Told.refused("image", LittleMore::new, y -> y.image(0), -1, 1);
        Told.refusedBy("restore", LittleMore::new, y -> y.restore(0, 0), 1);
        Told.passes("seed", x, y -> y.seed(7) ? 1 : 0, 1);
        Told.passes("span", x, y -> y.span(1, 1, 2, true), 1);
    }

    private static void promise2() {
        Told.says("2", "Twenty bytes come behind THE TAPE, of each number the highest first");
        LittleMore x = new LittleMore();
        // "sense a line 1/1 noi", then "se 1" and sixteen bytes of 255: the first of these is at 24, the last at 39.
        int all = -1;
        x.feed(0x73656e73, 0x65206120, 0x6c696e65, 0x20312f31, 0x206e6f69);
        Told.due("feed", x.feed(0x73652031, all, all, all, all), 40);
        Told.due("room(24)", x.room(24), 1);
        x.feed(0x73656e73, 0x65206120, 0x6c696e65, 0x20312f31, 0x206e6f69);
        x.feed(0x73652031, 0x20202020, 0x20202020, 0x20202020, 0x202020ff);
        Told.due("room(40)", x.room(40), -1);
        Told.due("where", x.where(), 39);
        for (int byteAt = 0; byteAt < 20; byteAt++) {
            int[] f = new int[5];
            for (int i = 0; i < 20; i++) f[i / 4] |= (i == byteAt ? 0x80 : 32) << 24 - 8 * (i % 4);
            x.feed(f[0], f[1], f[2], f[3], f[4]);
            Told.due("a strange byte at " + byteAt, x.room(20), -1);
            Told.due("where of a strange byte at " + byteAt, x.where(), byteAt);
        }

        Told.says("2", "how many it has; NONE, and none comes, if there would be more than 700");
        x = new LittleMore();
        for (int i = 1; i <= 35; i++) Told.due("feed " + i, x.feed(0, 0, 0, 0, 0), 20 * i);
        Told.unmarked("feed 36", x, y -> y.feed(0, 0, 0, 0, 0), -1);
        Told.due("size(6)", x.size(6), 700);
        x = new LittleMore();
        String text = A + Told.times(" ", 700 - A.length());
        for (int at = 0; at < 700; at += 20) {
            int[] f = Texts.five(text, at);
            x.feed(f[0], f[1], f[2], f[3], f[4]);
        }
        x.feed(all, all, all, all, all);
        Told.due("room(700)", x.room(700), 1);
        Told.unmarked("feed once THE TAPE is empty", x, y -> y.feed(0, 0, 0, 0, 0), 20);
    }

    private static void promise3() {
        Told.says("3", "The first n bytes of THE TAPE (it is empty then) are the ROOM from now on: how many SENSES");
        LittleMore x = some();
        Told.due("twenty and more", x.feed(0, 0, 0, 0, 0), 40);
        x = new LittleMore();
        Told.passes("room of 24", x, y -> Texts.room(y, A), 1);
        Told.due("size(6)", x.size(6), 0);
        Told.due("room of the first 24 of 40", firstOf(x, A + ";sayer p of a", 24), 1);
        Told.due("size(1)", x.size(1), 0);
        Told.due("size(6)", x.size(6), 0);
        Told.due("room of the first 25", firstOf(x, A + ";sayer p of a", 25), -1);
        Told.due("fault", x.fault(), 1);
        Told.due("where", x.where(), 25);
        Told.due("room of all", firstOf(x, A + ";sayer p of a", 37), 1);
        Told.due("size(1)", x.size(1), 1);
        Told.due("six SENSES", Texts.room(x, A + ";" + A.replace('a', 'b') + ";" + A.replace('a', 'c') + ";" + A.replace('a', 'd') + ";"
            + A.replace('a', 'f') + ";" + A.replace('a', 'g')), 6);

        Told.says("3", "(THE BOOK is empty, SEED 0)");
        x = some();
        Told.due("size(4) before", x.size(4), 4);
        Told.due("size(5) before", x.size(5) != 0, true);
        x.room(0);
        Told.passes("room", x, y -> Texts.room(y, A + ";sayer p of a tires 1 learns 1"), 1);
        Told.due("size(4)", x.size(4), 0);
        Told.due("size(5)", x.size(5), 0);
        for (int what = 0; what <= 9; what++) Told.due("sayer " + what, x.sayer(0, what), what == 7 ? 1 : 0);
        Told.due("no cells", x.fits(0), 21 * 11);
        Told.due("size(2)", x.size(2), 0);
        Told.due("size(3)", x.size(3), 0);

        Told.says("3", "are the ROOM from now on: nothing of the ROOMS before it, nor of texts with a FAULT");
        String rich = "sense a share 2 then floor 9 then floor 1 noise 9 8 7 6 5 4;sense b floor 399 noise 3 2 1;sayer p of b line 9 second 8 tires 1 learns 1 guess "
            + "likes 5,7,9;sayer q of b line 9 second 8 tires 1 learns 1 guess likes 5;plan u down 3 to 9 by 2 times 3;pay y hit 9 miss 8 false 7 right 6 there 50";
        String plain = "sense a line 1/1 noise 2 1;sayer p of a;plan u up 1 to 2 by 1 times 1;pay y hit 1 miss 0 false 0 right 0 there 100";
        for (String between : new String[] {A, rich, "sense a floor 1 noise 1 !", rich + " !"}) {
            x = new LittleMore();
            Texts.room(x, rich);
            x.tell(0, 1, 9, 0, 0, 1);
            Texts.room(x, between);
            Texts.room(x, rich);
            Texts.room(x, between);
            Told.due("room of plain behind " + between, Texts.room(x, plain), 1);
            int[] sizes = {1, 1, 1, 1, 0, 0, 0};
            for (int what = 0; what <= 6; what++) Told.due("size(" + what + ") behind " + between, x.size(what), sizes[what]);
            int[] sayer = {0, 0, 0, 0, 0, 0, 0, 4, 0, 0};
            for (int what = 0; what <= 9; what++) Told.due("sayer(0, " + what + ") behind " + between, x.sayer(0, what), sayer[what]);
            for (int v = 0; v <= 5; v++) Told.due("noise " + v + " behind " + between, x.noise(0, v), v == 0 ? 2 : v == 1 ? 1 : 0);
            Told.due("level behind " + between, x.level(0, 400), 400);
            Told.due("PAIR behind " + between, x.odds(0, 0, 9, 9, 0, 2, false), 6);
            Told.due("ALONE behind " + between, x.odds(0, 1, 1, 0, 0, 1, false), 3);
            Told.due("NUMBER behind " + between, x.odds(0, 3, 9, 0, 0, 9, false), 2);
            Told.due("more behind " + between, x.more(0, 9, 94), 3);
            Told.due("gain behind " + between, x.gain(0, 0, 1, 0), 300);
            x.tell(0, 1, 9, 0, 0, 1);
            Told.due("TIRED behind " + between, x.sayer(0, 3), 0);
            Told.due("LEARNED behind " + between, x.sayer(0, 4), 0);
            x.run(0, 0);
            Told.due("the plan behind " + between, x.book(2, 2), 2);
        }

        Told.says("3", "NONE: 2 (THE TAPE stays)");
        for (int n : new int[] {-1, MIN, 21, 700, 701, MAX}) Told.refused("room(" + n + ")", EdgesOfTheTextTest::some, y -> y.room(n), -1, 2);
        Told.refused("room(1) of nothing", LittleMore::new, y -> y.room(1), -1, 2);
        x = some();
        x.room(21);
        Told.due("room(20) of what stayed", x.room(20), -1);
        Told.due("it was sens", x.where(), 0);
        x = new LittleMore();
        Told.due("more than there are", firstOf(x, A, 41), -1);
        Told.due("what stayed is the ROOM now", x.room(24), 1);

        Told.says("3", "NONE: 4 (the ROOM stays)");
        for (int n = 0; n <= 20; n++) {
            x = some();
            String before = Told.state(x).replaceFirst("20 fault 0", "0 fault 1");
            Told.due("room(" + n + ")", x.room(n), -1);
            Told.due("trouble", x.trouble(), 4);
            Told.due("all but THE TAPE stays", Told.state(x).equals(before), true);
        }
        x = some();
        x.room(0);
        Told.due("a sense in part leaves the ROOM", Texts.room(x, "sense c line 9/1 noise 9 9;sayer r of c guess likes 9;plan c"), -1);
        Told.due("level", x.level(0, 7), 7);
        Told.due("noise", x.noise(0, 0), 1);
        Told.due("sayer guesses", x.sayer(0, 8), 0);
        Told.due("sayer likes", x.sayer(0, 9), 0);
        Told.due("sayer's line", x.sayer(0, 1), 3);
        Told.due("a run goes on", x.run(0, 1), 2);
    }

    private static int firstOf(LittleMore x, String text, int n) {
        for (int at = 0; at < text.length(); at += 20) {
            int[] f = Texts.five(text, at);
            x.feed(f[0], f[1], f[2], f[3], f[4]);
        }
        return x.room(n);
    }

    private static void promises4And5() {
        Told.says("4", "The FAULT of the latest room() not refused by 2; 0 without one");
        LittleMore x = new LittleMore();
        Told.unmarked("fault of none", x, y -> y.fault(), 0);
        x.room(5);
        Told.due("room refused by 2", x.fault(), 0);
        x.room(0);
        Told.due("of nothing", x.fault(), 1);
        Texts.room(x, "plan u up 1 to 1 by 1 times 1");
        Told.due("another", x.fault(), 6);
        x.room(1);
        Told.due("then one refused by 2", x.fault(), 6);
        x.seed(9);
        x.seed(-1);
        Told.unmarked("after other calls", x, y -> y.fault(), 6);
        Texts.room(x, A);
        Told.due("then a good one", x.fault(), 0);
        x.room(1);
        Told.due("then one refused by 2 again", x.fault(), 0);

        x.feed(0x20202020, 0x20202020, 0x20202020, 0x20202020, 0x20202020);
        x.room(0);
        Told.due("of the first 0 of twenty", x.fault(), 1);
        Told.due("its place", x.where(), 0);

        Told.says("5", "Its place, if the latest call that may be refused was by 4; NONE else");
        x = new LittleMore();
        Told.unmarked("where of none", x, y -> y.where(), -1);
        x.room(0);
        Told.due("at 0", x.where(), 0);
        Told.due("asked again", x.where(), 0);
        x.room(1);
        Told.due("by 2", x.where(), -1);
        Texts.room(x, A + Told.times(" ", 699 - A.length()) + "x");
        Told.due("at 699", x.where(), 699);
        x.feed(0, 0, 0, 0, 0);
        x.fault();
        x.level(0, 0);
        x.noise(9, 9);
        x.sayer(9, 9);
        x.book(9, 9);
        x.clear();
        x.size(9);
        x.trouble();
        try {
            x.led(0, 0);
            Told.due("led", 0, 1);
        } catch (java.util.NoSuchElementException e) {
            Told.due("calls that can't be refused leave it", x.where(), 699);
        }
        x.seed(1);
        Told.due("a call that passes", x.where(), -1);
        x.room(0);
        x.rest(0);
        Told.due("a call refused by 1", x.where(), -1);
        Texts.room(x, A);
        Told.due("a good room", x.where(), -1);
    }

    public static void main(String[] args) {
        tokens();
        lines();
        plansAndPays();
        names();
        many();
        order();
        promise1();
        promise2();
        promise3();
        promises4And5();
        Told.end();
    }
}
