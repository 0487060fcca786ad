import java.math.BigInteger;
import java.util.ArrayList;
import java.util.Arrays;
import java.util.HashMap;
import java.util.HashSet;
import java.util.List;
import java.util.Map;
import java.util.NoSuchElementException;
import java.util.Set;

/**
 * The document once more, as slow and as plain as can be and with all of the Java library:
 * odds by walking all noises one by one, spans by big numbers, nothing kept from call to call.
 */
final class Plain {
    static final class Step { String kind; int a, b; }
    static final class Sense { final List<Step> steps = new ArrayList<>(); final List<Integer> noise = new ArrayList<>(); }
    static final class Sayer {
        int sense, line, second, tires, learns, inAll, since;
        boolean guess;
        final List<Integer> likes = new ArrayList<>();
    }
    static final class Plan { String how; int from, to, by, times; }
    static final class Pay { int hit, miss, wrong, right, there; }
    static final class Room {
        final List<Sense> senses = new ArrayList<>();
        final List<Sayer> sayers = new ArrayList<>();
        final List<Plan> plans = new ArrayList<>();
        final List<Pay> pays = new ArrayList<>();
        final Map<String, Integer> names = new HashMap<>();
    }
    static final class Fault extends RuntimeException {
        final int number, place;
        Fault(int number, int place) { this.number = number; this.place = place; }
    }

    private Room room = new Room();
    private final List<Integer> tape = new ArrayList<>();
    private final List<int[]> book = new ArrayList<>();
    private int seed, trouble, fault, place;

    // ---- the text

    private static final Set<String> KEPT = new HashSet<>(Arrays.asList("sense", "sayer", "plan", "pay", "then",
            "noise", "line", "less", "to", "by", "likes", "guess"));

    private static final class Parse {
        final String text;
        int at;
        final Room room = new Room();
        Parse(String text) { this.text = text; }

        void blanks() { while (at < text.length() && text.charAt(at) == ' ') at++; }
        String peek() {
            blanks();
            if (at == text.length()) return "";
            String sort = sort(text.charAt(at));
            int end = at + 1;
            if (sort.equals("a") || sort.equals("0")) {
                while (end < text.length() && sort(text.charAt(end)).equals(sort)) end++;
            }
            return text.substring(at, end);
        }
        static String sort(char c) { return c >= 'a' && c <= 'z' ? "a" : c >= '0' && c <= '9' ? "0" : "" + c; }
        Fault bad(int number) { blanks(); return new Fault(number, at); }
        String next() { String t = peek(); at += t.length(); return t; }
        boolean is(String t) { return peek().equals(t); }
        void take(String t) { if (!is(t)) throw bad(1); next(); }
        boolean isWord() { return peek().matches("[a-z]{1,8}"); }
        boolean isWhole() { return peek().matches("[0-9]{1,3}"); }
        int whole(int low, int high) {
            if (!isWhole()) throw bad(1);
            int v = Integer.parseInt(peek());
            if (v < low || v > high) throw bad(4);
            next();
            return v;
        }
        int signed(int high) {
            int sign = 1;
            if (is("less")) { next(); sign = -1; }
            return sign * whole(0, high);
        }
        void newName(int sense) {
            if (!isWord() || KEPT.contains(peek())) throw bad(1);
            if (room.names.containsKey(peek())) throw bad(3);
            room.names.put(next(), sense);
        }
        Room all() {
            line();
            while (is(";")) { next(); line(); }
            if (!is("")) throw bad(1);
            at = text.length();
            if (room.senses.isEmpty()) throw new Fault(6, at);
            return room;
        }
        void line() {
            switch (peek()) {
                case "sense": sense(); break;
                case "sayer": sayer(); break;
                case "plan": plan(); break;
                case "pay": pay(); break;
                default: throw bad(1);
            }
        }
        void sense() {
            if (room.senses.size() == 6) throw bad(5);
            next();
            newName(room.senses.size());
            Sense s = new Sense();
            step(s);
            while (is("then")) { next(); step(s); }
            take("noise");
            s.noise.add(whole(1, 9));
            while (isWhole()) {
                int from = at;
                int v = whole(0, 9);
                if (s.noise.size() == 6) throw new Fault(5, from);
                s.noise.add(v);
            }
            room.senses.add(s);
        }
        void step(Sense s) {
            Step t = new Step();
            t.kind = peek();
            if (!Arrays.asList("share", "power", "line", "floor").contains(t.kind)) throw bad(1);
            if (s.steps.size() == 4) throw bad(5);
            next();
            switch (t.kind) {
                case "share": t.a = whole(2, 99); break;
                case "power": t.a = whole(1, 3); take("/"); t.b = whole(1, 3); break;
                case "line": t.a = whole(1, 99); take("/"); t.b = whole(1, 99); break;
                default: t.a = whole(0, 399);
            }
            s.steps.add(t);
        }
        void sayer() {
            if (room.sayers.size() == 6) throw bad(5);
            next();
            newName(-1);
            take("of");
            if (!isWord() || KEPT.contains(peek())) throw bad(1);
            if (room.names.getOrDefault(peek(), -1) < 0) throw bad(2);
            Sayer s = new Sayer();
            s.sense = room.names.get(next());
            if (is("line")) { next(); s.line = signed(50); }
            if (is("second")) { next(); s.second = signed(50); }
            if (is("tires")) { next(); s.tires = whole(1, 99); }
            if (is("learns")) { next(); s.learns = whole(1, 99); }
            if (is("guess")) { next(); s.guess = true; }
            if (is("likes")) {
                do {
                    next();
                    blanks();
                    int from = at;
                    int v = whole(0, 999);
                    if (s.likes.contains(v)) throw new Fault(3, from);
                    if (s.likes.size() == 6) throw new Fault(5, from);
                    s.likes.add(v);
                } while (is(","));
            }
            room.sayers.add(s);
        }
        void plan() {
            if (room.plans.size() == 4) throw bad(5);
            next();
            newName(-1);
            Plan p = new Plan();
            p.how = peek();
            if (!Arrays.asList("up", "down", "mixed").contains(p.how)) throw bad(1);
            next();
            p.from = whole(1, 400);
            take("to");
            p.to = whole(p.from, 400);
            take("by");
            p.by = whole(1, 400);
            take("times");
            blanks();
            int from = at;
            p.times = whole(1, 20);
            if (sizes(p).size() > 200) throw new Fault(4, from);
            room.plans.add(p);
        }
        void pay() {
            if (room.pays.size() == 4) throw bad(5);
            next();
            newName(-1);
            Pay p = new Pay();
            take("hit"); p.hit = signed(99);
            take("miss"); p.miss = signed(99);
            take("false"); p.wrong = signed(99);
            take("right"); p.right = signed(99);
            take("there"); p.there = whole(0, 100);
            room.pays.add(p);
        }
    }

    static List<Integer> sizes(Plan p) {
        List<Integer> all = new ArrayList<>();
        for (int s = p.from; s <= p.to; s += p.by) for (int t = 0; t < p.times; t++) all.add(s);
        return all;
    }

    int feed(int... fives) {
        if (tape.size() > 680) return -1;
        for (int v : fives) for (int s = 24; s >= 0; s -= 8) tape.add((v >> s) & 255);
        return tape.size();
    }

    int room(int n) {
        if (n < 0 || n > tape.size()) return no(2);
        StringBuilder text = new StringBuilder();
        for (int i = 0; i < n; i++) text.append((char) (int) tape.get(i));
        tape.clear();
        try {
            room = new Parse(text.toString()).all();
        } catch (Fault f) {
            fault = f.number;
            place = f.place;
            return no(4);
        }
        fault = 0;
        book.clear();
        seed = 0;
        trouble = 0;
        return room.senses.size();
    }

    int fault() { return fault; }
    int where() { return trouble == 4 ? place : -1; }

    private int no(int number) { trouble = number; return -1; }
    private int far(int number) { trouble = number; return -1000; }

    // ---- senses

    int rawLevel(Sense s, int size) {
        int v = size;
        for (Step t : s.steps) {
            switch (t.kind) {
                case "share": {
                    int marks = 0;
                    for (int m = 1; m <= v; m += Math.max(1, m / t.a)) marks++;
                    v = marks;
                    break;
                }
                case "power": {
                    BigInteger of = BigInteger.valueOf(v).pow(t.a);
                    int r = 0;
                    while (r < 9999 && BigInteger.valueOf(r + 1).pow(t.b).compareTo(of) <= 0) r++;
                    v = r;
                    break;
                }
                case "line": v = t.a * v / t.b; break;
                default: v = Math.max(0, v - t.a);
            }
            v = Math.min(9999, v);
        }
        return v;
    }

    private final Map<Sense, Map<Integer, Integer>> levels = new HashMap<>();
    private int lev(Sense s, int size) {
        return levels.computeIfAbsent(s, k -> new HashMap<>()).computeIfAbsent(size, k -> rawLevel(s, size));
    }

    private boolean sense(int i) { return i >= 0 && i < room.senses.size(); }
    private boolean sayer(int i) { return i >= 0 && i < room.sayers.size(); }
    private static boolean in(int v, int low, int high) { return v >= low && v <= high; }

    int level(int sense, int size) { return sense(sense) && in(size, 0, 400) ? lev(room.senses.get(sense), size) : -1; }

    int noise(int sense, int v) {
        if (!sense(sense)) return -1;
        int n = 0;
        for (int one : noises(room.senses.get(sense), 0)) if (one == v) n++;
        return n;
    }

    /** Every noise by itself, from the least on: one that is there three times stands three times. */
    private static int[] noises(Sense s, int out) {
        int kept = Math.max(1, s.noise.size() - out);
        List<Integer> all = new ArrayList<>();
        for (int v = 1 - kept; v < kept; v++) for (int i = 0; i < s.noise.get(Math.abs(v)); i++) all.add(v);
        return all.stream().mapToInt(i -> i).toArray();
    }

    private int out(Sayer s) {
        if (s.learns == 0) return 0;
        return Math.min(room.senses.get(s.sense).noise.size() - 1, s.inAll / s.learns);
    }
    private static int tired(Sayer s) { return s.tires == 0 ? 0 : s.since / s.tires; }
    private int[] now(Sayer s) { return noises(room.senses.get(s.sense), out(s)); }

    int sayer(int p, int what) {
        if (!sayer(p) || !in(what, 0, 9)) return -1000;
        Sayer s = room.sayers.get(p);
        return new int[] {s.sense, s.line, s.second, tired(s), out(s), s.inAll, s.since, now(s).length,
            s.guess ? 1 : 0, s.likes.size()}[what];
    }

    boolean rest(int p) {
        if (!sayer(p)) return no(1) == 0;
        trouble = 0;
        room.sayers.get(p).since = 0;
        return true;
    }

    // ---- trials

    private int check(int p, int kind, int a, int b, int c) {
        if (!sayer(p) || !in(kind, 0, 5) || kind == 4 && !sense(b)) return 1;
        if (!in(a, kind == 1 ? 0 : 1, 400)) return 2;
        if ((kind == 0 || kind == 2 || kind == 5) && !in(b, 1, 400)) return 2;
        if (kind == 2 && !in(c, 0, 2) || kind == 5 && !in(c, 0, 1)) return 2;
        return 0;
    }

    private int nearest(Sense s, int to) {
        int best = 1;
        for (int size = 400; size >= 1; size--) {
            if (Math.abs(lev(s, size) - to) <= Math.abs(lev(s, best) - to)) best = size;
        }
        return best;
    }

    private int answer(Sayer s, int tired, int kind, int b, int c, int[] f) {
        switch (kind) {
            case 0: {
                int d = f[1] + s.second + tired - f[0];
                return d > 0 ? 1 : d < 0 ? 0 : s.guess ? 1 : 2;
            }
            case 1: return f[0] > s.line + tired ? 1 : 0;
            case 2: {
                int[] off = {Math.abs(2 * f[0] - f[1] - f[2]), Math.abs(2 * f[1] - f[0] - f[2]), Math.abs(2 * f[2] - f[0] - f[1])};
                int top = Math.max(off[0], Math.max(off[1], off[2]));
                return off[0] == top ? 0 : off[1] == top ? 1 : 2;
            }
            case 3: {
                int v = Math.max(0, f[0]);
                int best = v, far = Integer.MAX_VALUE;
                List<Integer> likes = new ArrayList<>(s.likes);
                likes.sort(null);
                for (int l : likes) if (Math.abs(l - v) < far) { far = Math.abs(l - v); best = l; }
                return best;
            }
            case 4: return nearest(room.senses.get(b), f[0]);
            default: {
                int d = f[1] + s.second + tired - f[0];
                if (c == 1) return d < -2 ? 0 : 1;
                return d > 2 ? 1 : 0;
            }
        }
    }

    private static int feelings(int kind) { return kind == 2 ? 3 : kind == 0 || kind == 5 ? 2 : 1; }
    private static int sizeAt(int kind, int a, int b, int c, int place) {
        if (kind == 2) return place == c ? b : a;
        return place == 0 ? a : b;
    }

    /** Odds of all answers as a map; in it -1 is the whole. */
    private Map<Integer, Integer> odds(Sayer s, Sense law, int[] noise, int tired, int kind, int a, int b, int c) {
        Map<Integer, Integer> all = new HashMap<>();
        int k = feelings(kind);
        int[] at = new int[k], f = new int[k];
        boolean going = true;
        while (going) {
            for (int i = 0; i < k; i++) f[i] = lev(law, sizeAt(kind, a, b, c, i)) + noise[at[i]];
            all.merge(answer(s, tired, kind, b, c, f), 1, Integer::sum);
            all.merge(-1, 1, Integer::sum);
            int i = 0;
            while (i < k && ++at[i] == noise.length) at[i++] = 0;
            going = i < k;
        }
        return all;
    }
    private Map<Integer, Integer> fresh(Sayer s, Sense law, int kind, int a, int b) {
        return odds(s, law, noises(law, 0), 0, kind, a, b, 0);
    }

    int odds(int p, int kind, int a, int b, int c, int answer, boolean whole) {
        int t = check(p, kind, a, b, c);
        if (t != 0) return no(t);
        trouble = 0;
        Sayer s = room.sayers.get(p);
        Map<Integer, Integer> all = odds(s, room.senses.get(s.sense), now(s), tired(s), kind, a, b, c);
        if (whole) return all.get(-1);
        return answer < 0 ? 0 : all.getOrDefault(answer, 0);
    }

    boolean seed(int v) {
        if (!in(v, 0, 65536)) return no(2) == 0;
        trouble = 0;
        seed = v;
        return true;
    }

    private int draw(int many) { seed = (75 * seed + 74) % 65537; return seed % many; }

    private int say(int p, int kind, int a, int b, int c) {
        Sayer s = room.sayers.get(p);
        int[] noise = now(s);
        int[] f = new int[feelings(kind)];
        for (int i = 0; i < f.length; i++) {
            f[i] = lev(room.senses.get(s.sense), sizeAt(kind, a, b, c, i)) + noise[draw(noise.length)];
        }
        int said = answer(s, tired(s), kind, b, c, f);
        write(p, kind, a, b, c, said);
        return said;
    }

    private int[] cell(int p, int kind, int a, int b, int c) {
        return new int[] {p, kind, a, kind == 1 || kind == 3 ? 0 : b, kind == 2 || kind == 5 ? c : 0};
    }

    private void write(int p, int kind, int a, int b, int c, int said) {
        int[] row = Arrays.copyOf(cell(p, kind, a, b, c), 6);
        row[5] = said;
        book.add(row);
        room.sayers.get(p).inAll++;
        room.sayers.get(p).since++;
    }

    int trial(int p, int kind, int a, int b, int c) {
        int t = check(p, kind, a, b, c);
        if (t != 0) return no(t);
        if (book.size() == 1000) return no(3);
        trouble = 0;
        return say(p, kind, a, b, c);
    }

    int tell(int p, int kind, int a, int b, int c, int answer) {
        int t = check(p, kind, a, b, c);
        if (t != 0) return no(t);
        int top = new int[] {2, 1, 2, Integer.MAX_VALUE, Integer.MAX_VALUE, 1}[kind];
        if (!in(answer, 0, top)) return no(2);
        if (book.size() == 1000) return no(3);
        trouble = 0;
        write(p, kind, a, b, c, answer);
        return book.size();
    }

    int run(int plan, int p) {
        if (!in(plan, 0, room.plans.size() - 1) || !sayer(p)) return no(1);
        Plan q = room.plans.get(plan);
        List<Integer> sizes = sizes(q);
        if (book.size() + sizes.size() > 1000) return no(3);
        trouble = 0;
        if (q.how.equals("down")) java.util.Collections.reverse(sizes);
        int ones = 0;
        while (!sizes.isEmpty()) {
            int at = q.how.equals("mixed") ? draw(sizes.size()) : 0;
            ones += say(p, 1, sizes.remove(at), 0, 0);
        }
        return ones;
    }

    private static int move(int size, int step, int said) {
        return Math.min(400, Math.max(1, said == 1 ? size - step : size + step));
    }

    int climb(int p, int start, int step, int n) {
        if (!sayer(p)) return no(1);
        if (!in(start, 1, 400) || !in(step, 1, 400) || !in(n, 1, 50)) return no(2);
        if (book.size() + n > 1000) return no(3);
        trouble = 0;
        int size = start;
        for (int i = 0; i < n; i++) size = move(size, step, say(p, 1, size, 0, 0));
        return size;
    }

    int book(int i, int what) { return in(i, 0, book.size() - 1) && in(what, 0, 5) ? book.get(i)[what] : -1; }

    int count(int p, int kind, int a, int b, int c, int answer) {
        int t = check(p, kind, a, b, c);
        if (t != 0) return no(t);
        trouble = 0;
        return counted(cell(p, kind, a, b, c), answer);
    }

    private int counted(int[] cell, int answer) {
        int n = 0;
        for (int[] row : book) {
            if (Arrays.equals(Arrays.copyOf(row, 5), cell) && (answer == -1 || row[5] == answer)) n++;
        }
        return n;
    }

    // ---- what answers let

    private static final Map<List<Integer>, int[]> SPANS = new HashMap<>();

    /** All odds of the counts, then both sums for each count. */
    static int[] span(int n, int x, int y) {
        return SPANS.computeIfAbsent(Arrays.asList(n, x, y), key -> {
            BigInteger bx = BigInteger.valueOf(x), bz = BigInteger.valueOf(y - x), whole = BigInteger.valueOf(y).pow(n);
            BigInteger[] odds = new BigInteger[n + 1];
            BigInteger choose = BigInteger.ONE;
            for (int k = 0; k <= n; k++) {
                odds[k] = choose.multiply(bx.pow(k)).multiply(bz.pow(n - k));
                choose = choose.multiply(BigInteger.valueOf(n - k)).divide(BigInteger.valueOf(k + 1));
            }
            int least = -1, most = -1;
            for (int k = 0; k <= n; k++) {
                BigInteger fewer = BigInteger.ZERO, more = BigInteger.ZERO;
                for (int j = 0; j <= k; j++) fewer = fewer.add(odds[j]);
                for (int j = k; j <= n; j++) more = more.add(odds[j]);
                BigInteger forty = BigInteger.valueOf(40);
                if (fewer.multiply(forty).compareTo(whole) >= 0 && more.multiply(forty).compareTo(whole) >= 0) {
                    if (least < 0) least = k;
                    most = k;
                }
            }
            return new int[] {least, most};
        });
    }

    int span(int n, int x, int y, boolean most) {
        if (!in(n, 1, 40) || !in(y, 1, 10000) || !in(x, 0, y)) return no(2);
        trouble = 0;
        return span(n, x, y)[most ? 1 : 0];
    }

    private List<int[]> cells(int p, int kind) {
        List<int[]> all = new ArrayList<>();
        Set<List<Integer>> seen = new HashSet<>();
        for (int[] row : book) {
            if (row[0] == p && row[1] == kind && seen.add(Arrays.asList(row[2], row[3]))) all.add(Arrays.copyOf(row, 5));
        }
        return all;
    }

    private boolean over(int p) {
        for (int kind = 0; kind <= 1; kind++) for (int[] cell : cells(p, kind)) if (counted(cell, -1) > 40) return true;
        return false;
    }

    private boolean let(int p, int kind, Sense law, int far) {
        Sayer like = new Sayer();
        like.guess = room.sayers.get(p).guess;
        like.line = far;
        like.second = far;
        for (int[] cell : cells(p, kind)) {
            Map<Integer, Integer> odds = fresh(like, law, kind, cell[2], cell[3]);
            int n = counted(cell, -1);
            for (int answer = 0; answer <= (kind == 0 && !like.guess ? 2 : 1); answer++) {
                int[] span = span(n, odds.getOrDefault(answer, 0), odds.get(-1));
                if (!in(counted(cell, answer), span[0], span[1])) return false;
            }
        }
        return true;
    }

    int lets(int p, int sense, int line, int second) {
        if (!sayer(p) || !sense(sense)) return no(1);
        if (!in(line, -50, 50) || !in(second, -50, 50)) return no(2);
        if (over(p)) return no(3);
        trouble = 0;
        return let(p, 1, room.senses.get(sense), line) && let(p, 0, room.senses.get(sense), second) ? 1 : 0;
    }

    private List<int[]> allFits(int p) {
        List<int[]> all = new ArrayList<>();
        for (int s = 0; s < room.senses.size(); s++) {
            for (int line = -10; line <= 10; line++) {
                if (!let(p, 1, room.senses.get(s), line)) continue;
                for (int second = -5; second <= 5; second++) {
                    if (let(p, 0, room.senses.get(s), second)) all.add(new int[] {s, line, second});
                }
            }
        }
        return all;
    }

    int fits(int p) {
        if (!sayer(p)) return no(1);
        if (over(p)) return no(3);
        trouble = 0;
        return allFits(p).size();
    }

    int fitAt(int p, int i, int what) {
        if (!sayer(p) || !in(what, 0, 2)) return far(1);
        if (over(p)) return far(3);
        List<int[]> all = allFits(p);
        if (!in(i, 0, all.size() - 1)) return far(1);
        trouble = 0;
        return all.get(i)[what];
    }

    int verdict(int p, int sense) {
        if (!sayer(p) || !sense(sense)) return no(1);
        if (over(p)) return no(3);
        trouble = 0;
        boolean some = false, other = false;
        for (int[] fit : allFits(p)) {
            some |= fit[0] == sense;
            other |= fit[0] != sense;
        }
        return !some ? 0 : other ? 1 : 2;
    }

    private int outermost(int p, int sense, int kind, boolean most) {
        if (!sayer(p) || !sense(sense)) return far(1);
        if (over(p)) return far(3);
        trouble = 0;
        int found = -1000;
        for (int v = -50; v <= 50; v++) {
            if (let(p, kind, room.senses.get(sense), v)) {
                found = v;
                if (!most) break;
            }
        }
        return found == -1000 ? far(6) : found;
    }

    int lineOf(int p, int sense, boolean most) { return outermost(p, sense, 1, most); }
    int secondOf(int p, int sense, boolean most) { return outermost(p, sense, 0, most); }

    // ---- how much more

    private int need(Sayer s, int size, int percent) {
        for (int d = 1; size + d <= 400; d++) {
            Map<Integer, Integer> odds = fresh(s, room.senses.get(s.sense), 0, size, size + d);
            if (odds.getOrDefault(1, 0) * 100 >= percent * odds.get(-1)) return d;
        }
        return -2;
    }

    int more(int p, int size, int percent) {
        if (!sayer(p)) return no(1);
        if (!in(size, 1, 400) || !in(percent, 1, 100)) return no(2);
        trouble = 0;
        return need(room.sayers.get(p), size, percent);
    }

    int fails(int p, int percent, int from, int to, int share) {
        if (!sayer(p)) return no(1);
        if (!in(percent, 1, 100) || !in(from, 1, 400) || !in(to, from, 400) || !in(share, 1, 400)) return no(2);
        trouble = 0;
        for (int size = from; size <= to; size++) {
            int d = need(room.sayers.get(p), size, percent);
            if (d < 0 || Math.abs(d - Math.max(1, size / share)) > 1) return size;
        }
        return -2;
    }

    int steps(int p, int percent, int from, int to) {
        if (!sayer(p)) return no(1);
        if (!in(percent, 1, 100) || !in(from, 1, 400) || !in(to, 1, 400)) return no(2);
        trouble = 0;
        int n = 0, size = from;
        while (true) {
            int d = need(room.sayers.get(p), size, percent);
            if (d < 0 || size + d > to) return n;
            size += d;
            n++;
        }
    }

    private int ones(Sayer s, int size, int line) {
        Sayer like = new Sayer();
        like.line = line;
        return fresh(like, room.senses.get(s.sense), 1, size, 0).getOrDefault(1, 0);
    }

    int felt(int p, int percent) {
        if (!sayer(p)) return no(1);
        if (!in(percent, 1, 100)) return no(2);
        trouble = 0;
        Sayer s = room.sayers.get(p);
        int w = noises(room.senses.get(s.sense), 0).length;
        for (int size = 0; size <= 400; size++) {
            if ((ones(s, size, s.line) - ones(s, 0, s.line)) * 100 >= percent * w) return size;
        }
        return -2;
    }

    // ---- pay

    private long worth(int pay, Sayer s, int size, int line) {
        Pay y = room.pays.get(pay);
        int w = noises(room.senses.get(s.sense), 0).length;
        int x = ones(s, size, line), z = ones(s, 0, line);
        return (long) y.there * (x * y.hit + (w - x) * y.miss) + (100L - y.there) * (z * y.wrong + (w - z) * y.right);
    }

    private boolean pay(int i) { return in(i, 0, room.pays.size() - 1); }

    long gain(int pay, int p, int size, int line) {
        if (!pay(pay) || !sayer(p)) { no(1); return Long.MIN_VALUE; }
        if (!in(size, 1, 400) || !in(line, -50, 50)) { no(2); return Long.MIN_VALUE; }
        trouble = 0;
        return worth(pay, room.sayers.get(p), size, line);
    }

    int best(int pay, int p, int size) {
        if (!pay(pay) || !sayer(p)) return far(1);
        if (!in(size, 1, 400)) return far(2);
        trouble = 0;
        int best = 50;
        for (int line = 50; line >= -50; line--) {
            if (worth(pay, room.sayers.get(p), size, line) >= worth(pay, room.sayers.get(p), size, best)) best = line;
        }
        return best;
    }

    int moves(int pay, int p, int size) {
        int best = best(pay, p, size);
        if (trouble != 0) return best;
        int old = room.sayers.get(p).line;
        room.sayers.get(p).line = best;
        return best - old;
    }

    // ---- laws side by side

    private boolean unlike(Map<Integer, Integer> one, Map<Integer, Integer> other) {
        Set<Integer> answers = new HashSet<>(one.keySet());
        answers.addAll(other.keySet());
        answers.remove(-1);
        for (int answer : answers) {
            long left = (long) one.getOrDefault(answer, 0) * other.get(-1);
            if (left != (long) other.getOrDefault(answer, 0) * one.get(-1)) return true;
        }
        return false;
    }

    int parted(int one, int other, int kind, int from, int to) {
        if (!sense(one) || !sense(other) || kind != 0 && kind != 1 && kind != 3) return no(1);
        if (!in(from, kind == 1 ? 0 : 1, 400) || !in(to, from, 400)) return no(2);
        trouble = 0;
        Sayer plain = new Sayer();
        Sense x = room.senses.get(one), y = room.senses.get(other);
        for (int a = from; a <= to; a++) {
            for (int b = kind == 0 ? from : 0; b <= (kind == 0 ? to : 0); b++) {
                if (unlike(fresh(plain, x, kind, a, b), fresh(plain, y, kind, a, b))) return 1000 * a + b;
            }
        }
        return -2;
    }

    int fewest(int one, int other, int a, int b) {
        if (!sense(one) || !sense(other)) return no(1);
        if (!in(a, 1, 400) || !in(b, 1, 400)) return no(2);
        trouble = 0;
        Sayer plain = new Sayer();
        Map<Integer, Integer> x = fresh(plain, room.senses.get(one), 0, a, b);
        Map<Integer, Integer> y = fresh(plain, room.senses.get(other), 0, a, b);
        for (int n = 1; n <= 40; n++) {
            int[] s = span(n, x.getOrDefault(1, 0), x.get(-1)), t = span(n, y.getOrDefault(1, 0), y.get(-1));
            boolean common = false;
            for (int k = 0; k <= n; k++) common |= in(k, s[0], s[1]) && in(k, t[0], t[1]);
            if (!common) return n;
        }
        return -2;
    }

    private int matched(int sense, int size, int other) {
        return nearest(room.senses.get(other), lev(room.senses.get(sense), size));
    }

    int match(int sense, int size, int other) {
        if (!sense(sense) || !sense(other)) return no(1);
        if (!in(size, 1, 400)) return no(2);
        trouble = 0;
        return matched(sense, size, other);
    }

    int closes(int one, int other, int third, int size) {
        if (!sense(one) || !sense(other) || !sense(third)) return far(1);
        if (!in(size, 1, 400)) return far(2);
        trouble = 0;
        return matched(third, matched(other, matched(one, size, other), third), one) - size;
    }

    private long ways(Sayer s, int w, int size, int step, int n, int end) {
        if (n == 0) return size == end ? 1 : 0;
        long ones = ones(s, size, s.line);
        long sum = 0;
        if (ones > 0) sum += ones * ways(s, w, move(size, step, 1), step, n - 1, end);
        if (ones < w) sum += (w - ones) * ways(s, w, move(size, step, 0), step, n - 1, end);
        return sum;
    }

    long stair(int p, int start, int step, int n, int end) {
        if (!sayer(p)) return no(1);
        if (!in(start, 1, 400) || !in(step, 1, 400) || !in(n, 1, 9) || !in(end, 1, 400)) return no(2);
        trouble = 0;
        Sayer s = room.sayers.get(p);
        return ways(s, noises(room.senses.get(s.sense), 0).length, start, step, n, end);
    }

    // ---- going on

    long image(int p) {
        if (!sayer(p)) return no(1);
        Sayer s = room.sayers.get(p);
        if (s.inAll > 4095) return no(3);
        trouble = 0;
        return seed + 65537L * (s.since + 4096L * s.inAll);
    }

    boolean restore(int p, long image) {
        if (!sayer(p)) return no(1) == 0;
        if (image < 0) return no(2) == 0;
        long all = image / 65537 / 4096, since = image / 65537 % 4096;
        if (since > all || all > 4095) return no(2) == 0;
        trouble = 0;
        seed = (int) (image % 65537);
        room.sayers.get(p).inAll = (int) all;
        room.sayers.get(p).since = (int) since;
        return true;
    }

    int clear() { int n = book.size(); book.clear(); return n; }

    int led(int p, int i) {
        int passed = 0;
        for (int[] row : book) if (row[0] == p && passed++ == i) return row[5];
        throw new NoSuchElementException();
    }

    int size(int what) {
        return in(what, 0, 6) ? new int[] {room.senses.size(), room.sayers.size(), room.plans.size(),
            room.pays.size(), book.size(), seed, tape.size()}[what] : -1;
    }

    int trouble() { return trouble; }
}
