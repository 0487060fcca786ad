import java.util.function.Predicate;
import java.util.function.Supplier;
import java.util.function.ToLongFunction;

/** What the tests by sentences share: each answer stands under the sentence of the document that asks for it. */
final class Told {
    private static String sentence = "";
    private static int sentences = 0;
    private static int seen = 0;
    private static int wrong = 0;

    private Told() {
    }

    /** From here on the answers are due by this sentence; where: the promise's number, or I to V of the Terms. */
    static void says(String where, String words) {
        sentence = where + " \"" + words + "\"";
        sentences++;
    }

    static void due(String call, long got, long want) {
        seen++;
        if (got != want) {
            wrong++;
            System.out.println(sentence + "\n    " + call + " answered " + got + ", due is " + want);
        }
    }

    static void due(String call, boolean got, boolean want) {
        due(call, got ? 1 : 0, want ? 1 : 0);
    }

    private static void due(String call, String got, String want) {
        seen++;
        if (!got.equals(want)) {
            wrong++;
            System.out.println(sentence + "\n    " + call + " left\n" + got + "    due is\n" + want);
        }
    }

    /** A refused call: its answer, its TROUBLE (the call before had another one), and nothing has changed. */
    static void refused(String call, Supplier<LittleMore> made, ToLongFunction<LittleMore> asked, long want, int trouble) {
        LittleMore x = made.get();
        String before = state(x);
        if (trouble == 1) x.seed(-1);
        else x.rest(-1);
        due(call, asked.applyAsLong(x), want);
        due(call + ", its TROUBLE", x.trouble(), trouble);
        due(call, state(x), before);
    }

    static void refusedBy(String call, Supplier<LittleMore> made, Predicate<LittleMore> asked, int trouble) {
        refused(call, made, x -> asked.test(x) ? 1 : 0, 0, trouble);
    }

    /** A call that may be refused but isn't: its answer, and TROUBLE is 0 though the call before was refused. */
    static void passes(String call, LittleMore x, ToLongFunction<LittleMore> asked, long want) {
        x.rest(-1);
        due(call, asked.applyAsLong(x), want);
        due(call + ", its TROUBLE", x.trouble(), 0);
    }

    /** A call that can't be refused: its answer, and TROUBLE is still that of the call before. */
    static void unmarked(String call, LittleMore x, ToLongFunction<LittleMore> asked, long want) {
        x.rest(-1);
        due(call, asked.applyAsLong(x), want);
        due(call + ", TROUBLE of the call before", x.trouble(), 1);
    }

    /** All that can be seen without being refused, but for TROUBLE and where(). */
    static String state(LittleMore x) {
        StringBuilder all = new StringBuilder("sizes");
        for (int what = 0; what <= 6; what++) all.append(' ').append(x.size(what));
        all.append(" fault ").append(x.fault()).append('\n');
        for (int s = 0; s < x.size(0); s++) {
            all.append("sense ").append(x.level(s, 7)).append(' ').append(x.level(s, 400)).append(' ').append(x.noise(s, 0)).append('\n');
        }
        for (int p = 0; p < x.size(1); p++) {
            all.append("sayer");
            for (int what = 0; what <= 9; what++) all.append(' ').append(x.sayer(p, what));
            all.append('\n');
        }
        int rows = x.size(4);
        for (int i = Math.max(0, rows - 6); i < rows; i++) {
            for (int what = 0; what <= 5; what++) all.append(' ').append(x.book(i, what));
            all.append('\n');
        }
        return all.toString();
    }

    static void end() {
        System.out.println(sentences + " sentences, " + seen + " answers, " + wrong + " not as due");
        if (wrong != 0) System.exit(1);
    }

    static String times(String text, int n) {
        StringBuilder all = new StringBuilder();
        for (int i = 0; i < n; i++) all.append(text);
        return all.toString();
    }
}
