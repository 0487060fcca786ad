import java.util.NoSuchElementException;
import java.util.Random;

/**
 * Runs of calls by chance, the class beside Plain: every answer must be the same, in texts and in all else.
 * No object is asked more than the 512 calls that the document promises.
 */
public final class OracleTest {
    private static final int MOST_CALLS = 512;
    private static final int STEPS_END = 300;
    private static int wrong = 0;
    private static long calls = 0;

    private final Random r;
    private final long number;
    private final LittleMore x = new LittleMore();
    private final Plain y = new Plain();
    private final StringBuilder told = new StringBuilder();
    private boolean spoilt = false;
    private int asked = 0;

    private OracleTest(long number) {
        this.number = number;
        r = new Random(number);
    }

    private void due(String call, long got, long want) {
        calls++;
        asked++;
        told.append(call).append(" = ").append(want).append('\n');
        if (got != want && !spoilt) {
            wrong++;
            spoilt = true;
            System.out.println("run " + number + ": " + call + " answered " + got + ", due is " + want);
            String all = told.toString();
            System.out.println(all.length() > 3000 ? ".." + all.substring(all.length() - 3000) : all);
        }
    }

    private void due(String call, boolean got, boolean want) {
        due(call, got ? 1 : 0, want ? 1 : 0);
    }

    private int any(int low, int high) {
        return low + r.nextInt(high - low + 1);
    }

    private int rarely(int usual) {
        int[] odd = {-1, 0, 401, 400, 51, -51, 1000, Integer.MAX_VALUE, Integer.MIN_VALUE, usual + 1, usual - 1};
        return r.nextInt(25) == 0 ? odd[r.nextInt(odd.length)] : usual;
    }

    private int aSayer() { return rarely(any(0, Math.max(0, y.size(1) - 1))); }
    private int aSense() { return rarely(any(0, Math.max(0, y.size(0) - 1))); }
    private int aPlan() { return rarely(any(0, Math.max(0, y.size(2) - 1))); }
    private int aPay() { return rarely(any(0, Math.max(0, y.size(3) - 1))); }
    private int aSize() { return rarely(r.nextInt(3) == 0 ? any(1, 400) : any(1, 30)); }
    private int aFar() { return rarely(r.nextInt(3) == 0 ? any(-50, 50) : any(-6, 9)); }
    private int aPercent() { return rarely(r.nextInt(3) == 0 ? 100 : any(1, 100)); }

    private void text(String text) {
        int full = text.length();
        for (int at = 0; at < full; at += 20) {
            int[] f = Texts.five(text, at);
            due("feed \"" + text.substring(at, Math.min(full, at + 20)) + "\"", x.feed(f[0], f[1], f[2], f[3], f[4]), y.feed(f));
        }
        int n = r.nextInt(20) == 0 ? any(-1, full + 21) : full;
        due("room " + n, x.room(n), y.room(n));
        marks();
        state();
    }

    private void marks() {
        due("trouble", x.trouble(), y.trouble());
        due("fault", x.fault(), y.fault());
        due("where", x.where(), y.where());
    }

    private void state() {
        for (int what = -1; what <= 7; what++) due("size " + what, x.size(what), y.size(what));
        for (int p = 0; p < y.size(1); p++) for (int what = -1; what <= 10; what++) due("sayer " + p + " " + what, x.sayer(p, what), y.sayer(p, what));
    }

    private int b(int kind) {
        return kind == 4 ? aSense() : aSize();
    }

    private int led(boolean plain, int p, int i) {
        try {
            return plain ? y.led(p, i) : x.led(p, i);
        } catch (NoSuchElementException e) {
            return -7;
        }
    }

    private void trials() {
        int p = aSayer(), kind = rarely(r.nextInt(2) == 0 ? any(0, 1) : any(0, 5)), a = aSize(), b = b(kind), c = any(0, 2);
        if (r.nextInt(3) != 0) { a = any(1, 6); if (kind != 4) b = any(1, 6); }
        String of = p + " " + kind + " " + a + " " + b + " " + c + " ";
        switch (r.nextInt(10)) {
            case 0: {
                int answer = r.nextInt(2) == 0 ? any(-1, 3) : any(0, 40);
                due("odds " + of + answer, x.odds(p, kind, a, b, c, answer, false), y.odds(p, kind, a, b, c, answer, false));
                break;
            }
            case 1: due("odds whole " + of, x.odds(p, kind, a, b, c, 0, true), y.odds(p, kind, a, b, c, 0, true)); break;
            case 2: { int v = rarely(any(0, 65537)); due("seed " + v, x.seed(v), y.seed(v)); break; }
            case 3: case 4: due("trial " + of, x.trial(p, kind, a, b, c), y.trial(p, kind, a, b, c)); break;
            case 5: {
                int answer = r.nextInt(8) == 0 ? any(-1, 9) : kind == 0 ? any(0, 2) : any(0, 1);
                due("tell " + of + answer, x.tell(p, kind, a, b, c, answer), y.tell(p, kind, a, b, c, answer));
                break;
            }
            case 6: {
                int answer = any(-2, 3);
                due("count " + of + answer, x.count(p, kind, a, b, c, answer), y.count(p, kind, a, b, c, answer));
                break;
            }
            case 7: {
                int i = r.nextInt(Math.max(1, y.size(4) + 2)) - 1, what = any(-1, 6);
                due("book " + i + " " + what, x.book(i, what), y.book(i, what));
                break;
            }
            case 8: {
                int i = r.nextInt(Math.max(1, y.size(4) + 2)) - 1;
                due("led " + p + " " + i, led(false, p, i), led(true, p, i));
                break;
            }
            default: due("rest " + p, x.rest(p), y.rest(p));
        }
    }

    private void longTrials() {
        int p = aSayer();
        switch (r.nextInt(6)) {
            case 0: case 1: { int plan = aPlan(); due("run " + plan + " " + p, x.run(plan, p), y.run(plan, p)); break; }
            case 2: case 3: {
                int start = aSize(), step = aSize(), n = rarely(any(1, 50));
                due("climb " + p + " " + start + " " + step + " " + n, x.climb(p, start, step, n), y.climb(p, start, step, n));
                break;
            }
            case 4: if (r.nextInt(3) == 0) due("clear", x.clear(), y.clear()); break;
            default: {
                due("image " + p, x.image(p), y.image(p));
                long image = r.nextInt(65537) + 65537L * (r.nextInt(60) + 4096L * rarely(any(0, 90)));
                if (r.nextInt(8) == 0) image = 65537L * 4096 * any(4090, 4097);
                if (r.nextInt(3) == 0) due("restore " + p + " " + image, x.restore(p, image), y.restore(p, image));
            }
        }
    }

    private void judging() {
        int p = aSayer(), sense = aSense(), line = aFar(), second = r.nextInt(2) == 0 ? 0 : aFar();
        boolean most = r.nextBoolean();
        switch (r.nextInt(7)) {
            case 0: {
                int n = rarely(any(1, 40)), q = rarely(r.nextInt(2) == 0 ? any(1, 99) : any(1, 10000));
                int part = rarely(any(0, Math.min(10000, Math.max(1, q))));
                due("span " + n + " " + part + " " + q + " " + most, x.span(n, part, q, most), y.span(n, part, q, most));
                break;
            }
            case 1: due("lets " + p + " " + sense + " " + line + " " + second, x.lets(p, sense, line, second), y.lets(p, sense, line, second)); break;
            case 2: due("fits " + p, x.fits(p), y.fits(p)); break;
            case 3: {
                int i = any(-1, 30), what = any(0, 3);
                due("fitAt " + p + " " + i + " " + what, x.fitAt(p, i, what), y.fitAt(p, i, what));
                break;
            }
            case 4: due("verdict " + p + " " + sense, x.verdict(p, sense), y.verdict(p, sense)); break;
            case 5: due("lineOf " + p + " " + sense + " " + most, x.lineOf(p, sense, most), y.lineOf(p, sense, most)); break;
            default: due("secondOf " + p + " " + sense + " " + most, x.secondOf(p, sense, most), y.secondOf(p, sense, most));
        }
    }

    private void muchMore() {
        int p = aSayer(), percent = aPercent(), from = aSize(), to = rarely(Math.max(1, Math.min(400, from) + any(-1, 30)));
        switch (r.nextInt(8)) {
            case 0: due("more " + p + " " + from + " " + percent, x.more(p, from, percent), y.more(p, from, percent)); break;
            case 1: {
                int share = aSize();
                due("fails " + p + " " + percent + " " + from + " " + to + " " + share, x.fails(p, percent, from, to, share), y.fails(p, percent, from, to, share));
                break;
            }
            case 2: due("steps " + p + " " + percent + " " + from + " " + to, x.steps(p, percent, from, to), y.steps(p, percent, from, to)); break;
            case 3: due("felt " + p + " " + percent, x.felt(p, percent), y.felt(p, percent)); break;
            case 4: {
                int pay = aPay(), line = aFar();
                due("gain " + pay + " " + p + " " + from + " " + line, x.gain(pay, p, from, line), y.gain(pay, p, from, line));
                break;
            }
            case 5: { int pay = aPay(); due("best " + pay + " " + p + " " + from, x.best(pay, p, from), y.best(pay, p, from)); break; }
            case 6: { int pay = aPay(); due("moves " + pay + " " + p + " " + from, x.moves(pay, p, from), y.moves(pay, p, from)); break; }
            default: {
                int step = aSize(), n = rarely(any(1, 9)), end = r.nextInt(2) == 0 ? from : aSize();
                due("stair " + p + " " + from + " " + step + " " + n + " " + end, x.stair(p, from, step, n, end), y.stair(p, from, step, n, end));
            }
        }
    }

    private void laws() {
        int one = aSense(), other = aSense(), third = aSense(), a = aSize(), b = aSize();
        switch (r.nextInt(4)) {
            case 0: {
                int kind = r.nextInt(6) == 0 ? any(-1, 6) : new int[] {0, 1, 3}[r.nextInt(3)];
                int to = rarely(Math.min(400, Math.max(1, Math.min(400, a)) + any(0, 12)));
                due("parted " + one + " " + other + " " + kind + " " + a + " " + to, x.parted(one, other, kind, a, to), y.parted(one, other, kind, a, to));
                break;
            }
            case 1: due("fewest " + one + " " + other + " " + a + " " + b, x.fewest(one, other, a, b), y.fewest(one, other, a, b)); break;
            case 2: due("match " + one + " " + a + " " + other, x.match(one, a, other), y.match(one, a, other)); break;
            default: due("closes " + one + " " + other + " " + third + " " + a, x.closes(one, other, third, a), y.closes(one, other, third, a));
        }
    }

    private void look() {
        int sense = aSense(), size = r.nextInt(401), v = any(-7, 7);
        due("level " + sense + " " + size, x.level(sense, size), y.level(sense, size));
        due("noise " + sense + " " + v, x.noise(sense, v), y.noise(sense, v));
        state();
    }

    private void run() {
        text(Texts.chance(r, 600));
        while (asked < STEPS_END && !spoilt) {
            int which = r.nextInt(100);
            if (which < 45) trials();
            else if (which < 55) longTrials();
            else if (which < 70) judging();
            else if (which < 82) muchMore();
            else if (which < 93) laws();
            else if (which < 98) look();
            else if (r.nextInt(4) == 0) text(r.nextBoolean() ? Texts.chance(r, 600) : Texts.spoiled(r, Texts.chance(r, 300)));
            due("trouble", x.trouble(), y.trouble());
        }
        marks();
        state();
        checkCalls();
    }

    private void checkCalls() {
        if (asked > MOST_CALLS) {
            wrong++;
            System.out.println("run " + number + " asked " + asked + " calls of one object");
        }
    }

    /** Many cells of all sayers, most of them small, and what lets them. */
    private void crowd() {
        text("sense a line 1/" + any(1, 3) + " noise 2 1;sense b share " + any(5, 40) + " noise 1 1;sayer p of a line 3;sayer q of b guess;"
            + "sayer r of a second 1;sayer s of b line 9;sayer t of a;sayer u of b");
        int widest = any(5, 400);
        for (int i = 0; i < 340; i++) {
            int p = any(0, 5), kind = any(0, 1), a = any(1, widest), b = any(1, widest);
            boolean more = y.level(0, kind == 0 ? b : a) > (kind == 0 ? y.level(0, a) : 5);
            int answer = kind == 0 && r.nextInt(8) == 0 ? 2 : more ? 1 : 0;
            due("tell " + p + " " + kind + " " + a + " " + b + " " + answer, x.tell(p, kind, a, b, 0, answer), y.tell(p, kind, a, b, 0, answer));
        }
        for (int p = 0; p < 6; p++) {
            due("fits " + p, x.fits(p), y.fits(p));
            for (int sense = 0; sense < 2; sense++) {
                due("lineOf " + p + " " + sense, x.lineOf(p, sense, false), y.lineOf(p, sense, false));
                due("lineOf most " + p + " " + sense, x.lineOf(p, sense, true), y.lineOf(p, sense, true));
                due("secondOf " + p + " " + sense, x.secondOf(p, sense, false), y.secondOf(p, sense, false));
                due("secondOf most " + p + " " + sense, x.secondOf(p, sense, true), y.secondOf(p, sense, true));
            }
        }
        checkCalls();
    }

    private void runTexts() {
        for (int i = 0; i < 4 && !spoilt; i++) {
            String text = Texts.chance(r, 350);
            for (int n = r.nextInt(4); n > 0; n--) text = Texts.spoiled(r, text);
            if (text.length() <= 700) text(text);
        }
        checkCalls();
    }

    public static void main(String[] args) {
        long runs = args.length > 0 ? Long.parseLong(args[0]) : 600;
        long from = args.length > 1 ? Long.parseLong(args[1]) : 1;
        for (long i = from; i < from + runs; i++) {
            new OracleTest(i).run();
            for (int texts = 0; texts < 4; texts++) new OracleTest(-4 * i - texts).runTexts();
            if (i % 25 == 0) new OracleTest(i).crowd();
        }
        System.out.println(calls + " calls by chance, " + wrong + " runs with a wrong answer");
        if (wrong != 0) System.exit(1);
    }
}
