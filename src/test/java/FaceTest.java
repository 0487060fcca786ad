import java.lang.reflect.Constructor;
import java.lang.reflect.Field;
import java.lang.reflect.Member;
import java.lang.reflect.Method;
import java.lang.reflect.Modifier;
import java.nio.file.Files;
import java.nio.file.Path;
import java.util.Arrays;
import java.util.HashSet;
import java.util.Set;
import java.util.TreeSet;
import java.util.regex.Matcher;
import java.util.regex.Pattern;

/** The face is the document's and nothing else shows (LANGUAGE.md 1); a few other rules that a look can tell. */
public final class FaceTest {
    private static final String[] FACE = {
        "int feed(int,int,int,int,int)", "int room(int)", "int fault()", "int where()", "int level(int,int)",
        "int noise(int,int)", "int sayer(int,int)", "boolean rest(int)", "int odds(int,int,int,int,int,int,boolean)",
        "boolean seed(int)", "int trial(int,int,int,int,int)", "int tell(int,int,int,int,int,int)", "int run(int,int)",
        "int climb(int,int,int,int)", "int book(int,int)", "int count(int,int,int,int,int,int)",
        "int span(int,int,int,boolean)", "int lets(int,int,int,int)", "int fits(int)", "int fitAt(int,int,int)",
        "int verdict(int,int)", "int lineOf(int,int,boolean)", "int secondOf(int,int,boolean)", "int more(int,int,int)",
        "int fails(int,int,int,int,int)", "int steps(int,int,int,int)", "int felt(int,int)",
        "long gain(int,int,int,int)", "int best(int,int,int)", "int moves(int,int,int)",
        "int parted(int,int,int,int,int)", "int fewest(int,int,int,int)", "int match(int,int,int)",
        "int closes(int,int,int,int)", "long stair(int,int,int,int,int)", "long image(int)",
        "boolean restore(int,long)", "int clear()", "int led(int,int)", "int size(int)", "int trouble()"};

    private static int wrong = 0;

    private static void check(boolean good, String what) {
        if (!good) {
            wrong++;
            System.out.println("not so: " + what);
        }
    }

    private static String shape(Method m) {
        StringBuilder s = new StringBuilder(m.getReturnType() + " " + m.getName() + "(");
        for (Class<?> type : m.getParameterTypes()) s.append(s.charAt(s.length() - 1) == '(' ? "" : ",").append(type);
        return s.append(")").toString();
    }

    private static void checkFace() {
        Set<String> shown = new TreeSet<>();
        Set<String> names = new HashSet<>();
        for (Method m : LittleMore.class.getDeclaredMethods()) {
            if (Modifier.isPublic(m.getModifiers())) {
                shown.add(shape(m));
                names.add(m.getName());
                check(!Modifier.isStatic(m.getModifiers()), m + " is no static one");
            }
        }
        check(shown.equals(new TreeSet<>(Arrays.asList(FACE))), "the face is " + Arrays.toString(FACE) + " but is " + shown);
        check(Modifier.isFinal(LittleMore.class.getModifiers()) && Modifier.isPublic(LittleMore.class.getModifiers()), "public and final");
        for (Method m : LittleMore.class.getDeclaredMethods()) {
            boolean face = Modifier.isPublic(m.getModifiers());
            check(face || hidden(m), m + " is private");
            check(face || !names.contains(m.getName()), m + " has a name of its own");
        }
        for (Field f : LittleMore.class.getDeclaredFields()) {
            check(f.getName().equals("NONE") ? Modifier.isPublic(f.getModifiers()) : hidden(f), f + " is private");
            check(!Modifier.isStatic(f.getModifiers()) || Modifier.isFinal(f.getModifiers()), f + " is final");
        }
        Constructor<?>[] makers = LittleMore.class.getDeclaredConstructors();
        check(makers.length == 1 && makers[0].getParameterCount() == 0, "one constructor");
        Class<?>[] inside = LittleMore.class.getDeclaredClasses();
        check(inside.length <= 11, "some twelve classes");
        for (Class<?> c : inside) {
            check(Modifier.isStatic(c.getModifiers()) && !Modifier.isPublic(c.getModifiers()), c + " is static and not public");
            int fields = 0;
            for (Field f : c.getDeclaredFields()) fields += Modifier.isStatic(f.getModifiers()) ? 0 : 1;
            check(fields <= 20, c + " has some twenty fields");
            for (Method m : c.getDeclaredMethods()) {
                check(!names.contains(m.getName()), m + " has a name of its own");
                check(m.getParameterCount() <= 7, m + " takes seven at most");
            }
        }
    }

    private static boolean hidden(Member m) {
        return Modifier.isPrivate(m.getModifiers()) || m.isSynthetic();
    }

    private static void checkSource(String source) {
        String bare = source.replaceAll("(?s)/\\*.*?\\*/", "").replaceAll("//[^\n]*", "");
        for (String word : new String[] {"synchronized", "assert", "finally", "try", "catch", "->", "::", "double", "float",
            "Exact", "Random", "currentTimeMillis", "nanoTime", "Thread", "package", "Integer\\.", "Long\\.", "\" \\+", "\\+ \""}) {
            check(!Pattern.compile(word.matches("[a-z]+") ? "\\b" + word + "\\b" : word).matcher(bare).find(), "no " + word);
        }
        Matcher imports = Pattern.compile("import ([^;]*);").matcher(bare);
        while (imports.find()) {
            check(imports.group(1).equals("java.util.Arrays") || imports.group(1).equals("java.util.NoSuchElementException"),
                    "no import of " + imports.group(1));
        }
        Matcher library = Pattern.compile("\\b(Math|Arrays|System)\\.(\\w+)").matcher(bare);
        Set<String> listed = new HashSet<>(Arrays.asList("max", "min", "abs", "floorMod", "fill", "arraycopy"));
        while (library.find()) check(listed.contains(library.group(2)), library.group() + " is listed");
        check(Pattern.compile("\\bthrow\\b").matcher(bare).results().count() == 1, "one throw, led()'s");
        int since = 0;
        for (String line : source.split("\n")) {
            since = line.matches(" {4,8}(public|private|boolean|int|long|void|Noise|Sense|static)?.*\\) (throws \\w+ )?\\{") ? 0 : since + 1;
            check(since <= 60 || !line.matches(" {4,8}\\}"), "a method of some sixty lines ends with " + line);
            check(line.length() <= 130, "a short line: " + line);
        }
    }

    public static void main(String[] args) throws Exception {
        checkFace();
        Path source = Path.of(System.getProperty("root", "."), "src/main/java/LittleMore.java");
        check(Files.exists(source), "the source is at " + source);
        if (Files.exists(source)) checkSource(Files.readString(source));
        System.out.println(wrong == 0 ? "the face is as told" : wrong + " are not so");
        if (wrong != 0) System.exit(1);
    }
}
