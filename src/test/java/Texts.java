/** Hands a text to objects, twenty bytes a call, and makes texts by chance (with a told seed, so always the same). */
final class Texts {
    private Texts() {
    }

    /** The five numbers of twenty bytes from a place on; blanks behind the end. */
    static int[] five(String text, int from) {
        int[] five = new int[5];
        for (int i = 0; i < 20; i++) {
            int sign = from + i < text.length() ? text.charAt(from + i) : ' ';
            five[i / 4] = five[i / 4] << 8 | sign;
        }
        return five;
    }

    static int room(LittleMore x, String text) {
        for (int at = 0; at < text.length(); at += 20) {
            int[] f = five(text, at);
            x.feed(f[0], f[1], f[2], f[3], f[4]);
        }
        return x.room(text.length());
    }

    static LittleMore roomOf(String text) {
        LittleMore x = new LittleMore();
        if (room(x, text) < 1) {
            throw new AssertionError("fault " + x.fault() + " at " + x.where() + " in " + text);
        }
        return x;
    }

    private static final String[] NAMES = {"w", "l", "x", "share", "of", "up", "abcdefgh", "tires", "there", "false",
        "q", "p", "pa", "senses", "second", "hit", "no", "mixed", "u", "v"};

    static String chance(java.util.Random r, int most) {
        StringBuilder text = new StringBuilder();
        int senses = 1 + r.nextInt(r.nextInt(8) == 0 ? 6 : 3);
        int names = 0;
        for (int i = 0; i < senses; i++) {
            text.append(i == 0 ? "" : ";").append("sense ").append(NAMES[names++]).append(' ').append(step(r));
            while (r.nextInt(2) == 0 && text.length() < most / 2) {
                text.append(" then ").append(step(r));
            }
            text.append(" noise ").append(1 + r.nextInt(r.nextInt(4) == 0 ? 9 : 3));
            for (int n = r.nextInt(r.nextInt(4) == 0 ? 6 : 3); n > 0; n--) {
                text.append(' ').append(r.nextInt(r.nextInt(5) == 0 ? 10 : 3));
            }
        }
        for (int i = r.nextInt(5); i > 0 && text.length() < most - 100; i--) {
            text.append(";sayer ").append(NAMES[names++]).append(" of ").append(NAMES[r.nextInt(senses)]).append(habits(r));
        }
        for (int i = r.nextInt(4); i > 0 && text.length() < most - 100; i--) {
            text.append(";plan ").append(NAMES[names++]).append(plan(r));
        }
        for (int i = r.nextInt(3); i > 0 && text.length() < most - 100; i--) {
            text.append(";pay ").append(NAMES[names++]).append(" hit ").append(amount(r)).append(" miss ").append(amount(r))
                .append(" false ").append(amount(r)).append(" right ").append(amount(r)).append(" there ").append(r.nextInt(101));
        }
        return text.toString();
    }

    private static String amount(java.util.Random r) {
        return (r.nextInt(2) == 0 ? "less " : "") + r.nextInt(r.nextInt(3) == 0 ? 100 : 12);
    }

    private static String step(java.util.Random r) {
        switch (r.nextInt(4)) {
            case 0: return "share " + (2 + r.nextInt(r.nextInt(2) == 0 ? 98 : 12));
            case 1: return "power " + (1 + r.nextInt(3)) + "/" + (1 + r.nextInt(3));
            case 2: return "line " + (1 + r.nextInt(r.nextInt(3) == 0 ? 99 : 5)) + " /" + (1 + r.nextInt(r.nextInt(3) == 0 ? 99 : 5));
            default: return "floor " + r.nextInt(r.nextInt(3) == 0 ? 400 : 20);
        }
    }

    private static String habits(java.util.Random r) {
        StringBuilder text = new StringBuilder();
        if (r.nextInt(2) == 0) text.append(" line ").append(r.nextInt(2) == 0 ? "less " : "").append(r.nextInt(r.nextInt(3) == 0 ? 51 : 8));
        if (r.nextInt(2) == 0) text.append(" second ").append(r.nextInt(2) == 0 ? "less " : "").append(r.nextInt(r.nextInt(5) == 0 ? 51 : 4));
        if (r.nextInt(2) == 0) text.append(" tires ").append(1 + r.nextInt(r.nextInt(2) == 0 ? 99 : 9));
        if (r.nextInt(2) == 0) text.append(" learns ").append(1 + r.nextInt(r.nextInt(2) == 0 ? 99 : 9));
        if (r.nextInt(2) == 0) text.append(" guess");
        if (r.nextInt(2) == 0) {
            int at = r.nextInt(20);
            text.append(" likes ").append(at);
            for (int n = r.nextInt(6); n > 0; n--) {
                at += 1 + r.nextInt(r.nextInt(4) == 0 ? 100 : 9);
                text.append(',').append(at);
            }
        }
        return text.toString();
    }

    private static String plan(java.util.Random r) {
        int from = 1 + r.nextInt(r.nextInt(2) == 0 ? 400 : 30);
        int to = from + r.nextInt(Math.min(401 - from, r.nextInt(2) == 0 ? 400 : 30));
        int by = 1 + r.nextInt(r.nextInt(2) == 0 ? 50 : 5);
        int most = Math.min(20, 200 / ((to - from) / by + 1));
        if (most < 1) {
            by = 40;
            most = 1;
        }
        String how = new String[] {" up ", " down ", " mixed "}[r.nextInt(3)];
        return how + from + " to " + to + " by " + by + " times " + (1 + r.nextInt(most));
    }

    private static final String[] TOKENS = {"sense", "sayer", "plan", "pay", "then", "noise", "line", "less", "to", "by",
        "likes", "guess", "share 3", "power 2/3", "floor 4", "of", "second", "tires", "learns", "up", "down", "mixed", "times",
        "hit", "miss", "false", "right", "there", ";", ",", "/", "0", "1", "9", "10", "50", "51", "99", "100", "101", "400",
        "401", "999", "1000", "abcdefghi", "a", "w", "zz", "A", "-", "!", "\u00e9", "\u0000", "then floor 1", "3 3 3 3",
        ",4,5,6,7", ";sense a line 1/1 noise 1", ";sayer b of w", ";plan c up 1 to 1 by 1 times 1",
        ";pay d hit 1 miss 1 false 1 right 1 there 1"};

    /** A text with something put in, taken out, cut off or put twice. */
    static String spoiled(java.util.Random r, String text) {
        int at = r.nextInt(text.length() + 1);
        String token = TOKENS[r.nextInt(TOKENS.length)];
        int blank = text.indexOf(' ', at);
        switch (r.nextInt(6)) {
            case 0: return text.substring(0, at);
            case 1: return text.substring(0, at) + token + text.substring(at);
            case 2: return blank < 0 ? text + " " + token : text.substring(0, blank) + " " + token + text.substring(blank);
            case 3: {
                int next = blank < 0 ? -1 : text.indexOf(' ', blank + 1);
                return next < 0 ? text + ";" : text.substring(0, blank) + " " + token + text.substring(next);
            }
            case 4: {
                int next = blank < 0 ? -1 : text.indexOf(' ', blank + 1);
                return next < 0 ? text + token : text.substring(0, blank) + text.substring(next);
            }
            default: {
                int line = text.indexOf(';', at);
                int end = line < 0 ? -1 : text.indexOf(';', line + 1);
                return end < 0 ? text + " ;" + text : text.substring(0, end) + text.substring(line);
            }
        }
    }
}
