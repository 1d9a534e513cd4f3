import java.io.IOException;
import java.lang.reflect.Constructor;
import java.lang.reflect.Field;
import java.lang.reflect.Method;
import java.lang.reflect.Modifier;
import java.nio.file.Files;
import java.nio.file.Path;
import java.util.List;
import java.util.TreeMap;
import java.util.TreeSet;
import java.util.regex.Matcher;
import java.util.regex.Pattern;

/** The rules of ../shared/LANGUAGE.md that can be seen without running the class; .ci/run starts it at the root. */
public final class LanguageTest {
    private static final String FACE = "place(int,int)int link(int,int)int kind(int,int,int)int hold(int,int)int "
        + "good()int highest(int)int lowest(int)int at(int)int put(int,int)int take(int)int seed(int)int "
        + "tick(int,int)int run(int,int)int gap(int)int draw()int drawn(int)int met()int tally(int,int,int)int "
        + "many()int all()long chance(int)long mean(int,int)long alike(int,int,int)long told(int)int "
        + "about(int,int)int";
    private static final List<String> CONSTANTS = List.of("NONE", "UNKNOWN", "OUTSIDE", "STATE", "FULL", "NO");
    private static final List<String> FORBIDDEN = List.of("import ", "package ", "catch", "finally", "synchronized",
        "assert ", "->", "::", "instanceof", "throw", "random", "Thread", "System.out", "nanoTime",
        "currentTimeMillis", "Exact(", "hashCode", "equals(", "toString", "protected");

    private static final String LIBRARY = "(Math|Integer|Long)\\.(compare|max|min|abs|bitCount|floorDiv|floorMod)\\("
        + "|System\\.arraycopy\\(|Arrays\\.(copyOf|copyOfRange|fill)\\(|List\\.of\\(";
    private static final Pattern METHOD = Pattern.compile(" {4,8}(?:[\\w\\[\\]]+ )+(\\w+)\\([^;=]*\\) \\{");

    public static void main(String[] args) throws IOException {
        face();
        insideClasses();
        text(Files.readString(Path.of("src/main/java/LongAgoDraws.java")));
        Due.end("LanguageTest");
    }

    private static void face() {
        TreeSet<String> due = new TreeSet<>(List.of(FACE.split(" ")));
        TreeSet<String> found = new TreeSet<>();
        for (Method method : LongAgoDraws.class.getDeclaredMethods()) {
            if (!Modifier.isPrivate(method.getModifiers())) {
                StringBuilder text = new StringBuilder(method.getName()).append('(');
                for (Class<?> type : method.getParameterTypes()) {
                    text.append(text.charAt(text.length() - 1) == '(' ? "" : ",").append(type.getName());
                }
                found.add(text.append(')').append(method.getReturnType().getName()).toString());
                Due.isTrue("public: " + text, Modifier.isPublic(method.getModifiers()));
            }
        }
        Due.isTrue("the methods are " + due + ", found " + found, due.equals(found));
        int constants = 0;
        for (Field field : LongAgoDraws.class.getDeclaredFields()) {
            if (!Modifier.isPrivate(field.getModifiers())) {
                constants++;
                Due.isTrue("a constant: " + field, CONSTANTS.contains(field.getName())
                    && Modifier.isPublic(field.getModifiers()) && Modifier.isFinal(field.getModifiers()));
            }
        }
        Due.is("constants", constants, CONSTANTS.size());
        Due.isTrue("final", Modifier.isFinal(LongAgoDraws.class.getModifiers()));
        Constructor<?>[] constructors = LongAgoDraws.class.getDeclaredConstructors();
        Due.is("constructors", constructors.length, 1);
        Due.is("its parameters", constructors[0].getParameterCount(), 0);
    }

    private static void insideClasses() {
        Class<?>[] classes = LongAgoDraws.class.getDeclaredClasses();
        Due.isTrue("some twelve classes", classes.length <= 12);
        for (Class<?> inside : classes) {
            int fields = 0;
            for (Field field : inside.getDeclaredFields()) {
                fields += Modifier.isStatic(field.getModifiers()) ? 0 : 1;
                Due.isTrue("no static state: " + field,
                    !Modifier.isStatic(field.getModifiers()) || Modifier.isFinal(field.getModifiers()));
            }
            Due.isTrue("some twenty fields: " + inside, fields <= 20);
            for (Method method : inside.getDeclaredMethods()) {
                Due.isTrue("no name of the face: " + method, !FACE.matches("(.* )?" + method.getName() + "\\(.*"));
                Due.isTrue("seven parameters: " + method, method.getParameterCount() <= 7);
            }
        }
    }

    private static void text(String source) {
        String code = source.replaceAll("(?s)/\\*.*?\\*/", "").replaceAll("//[^\n]*", "");
        for (String word : FORBIDDEN) {
            Due.isTrue("the class does without " + word, !code.contains(word));
        }
        Matcher made = Pattern.compile("new \\w+").matcher(code);
        while (made.find()) {
            String line = code.substring(code.lastIndexOf('\n', made.start()) + 1, made.end());
            Due.isTrue("made once, in a constructor: " + line,
                line.startsWith("        final ") || line.matches(" {8}\\w+ = new \\w+"));
        }
        libraryOf(code);
        callsAreNotDeep(code);
        methodsAreShort(source);
        for (int i = 0; i < source.length(); i++) {
            Due.isTrue("sign at " + i, source.charAt(i) < 128);
        }
    }

    /** What is asked of a name with a great letter: of a class inside, or one of the calls that rule 4 lists. */
    private static void libraryOf(String code) {
        TreeSet<String> own = new TreeSet<>();
        for (Class<?> inside : LongAgoDraws.class.getDeclaredClasses()) {
            own.add(inside.getSimpleName());
        }
        Matcher used = Pattern.compile("\\b([A-Z][a-z]\\w*)\\.(\\w+)(\\(?)").matcher(code);
        while (used.find()) {
            Due.isTrue("a class inside or a call of the library that is listed: " + used.group(),
                own.contains(used.group(1)) || used.group().matches(LIBRARY));
        }
    }

    /** Rule 11, and that there is no recursion: by the names of the methods, which differ all over the file. */
    private static void callsAreNotDeep(String code) {
        TreeMap<String, TreeSet<String>> calls = new TreeMap<>();
        String method = "";
        for (String line : code.split("\n")) {
            Matcher head = METHOD.matcher(line);
            if (head.matches()) {
                method = head.group(1);
                Due.isTrue("there is one method " + method, calls.put(method, new TreeSet<>()) == null);
            } else if (!method.isEmpty()) {
                Matcher call = Pattern.compile("(?<!new )\\b(\\w+)\\(").matcher(line);
                while (call.find()) {
                    calls.get(method).add(call.group(1));
                }
            }
        }
        Due.isTrue("methods are found", calls.size() > 60);
        for (String first : calls.keySet()) {
            int depth = depthOf(first, calls, 1);
            Due.isTrue("eight calls deep at most, not " + depth + ": " + first, depth <= 8);
        }
    }

    private static int depthOf(String method, TreeMap<String, TreeSet<String>> calls, int depth) {
        int deepest = depth;
        for (String next : calls.get(method)) {
            if (calls.containsKey(next) && depth < 20) {
                deepest = Math.max(deepest, depthOf(next, calls, depth + 1));
            }
        }
        return deepest;
    }

    private static void methodsAreShort(String source) {
        String[] lines = source.split("\n");
        int start = -1;
        for (int i = 0; i < lines.length; i++) {
            if (lines[i].matches(" {4,8}[\\w\\[\\] ]+\\([^;]*\\) \\{")) {
                start = i;
            }
            if (start >= 0 && lines[i].matches(" {4,8}\\}")) {
                Due.isTrue("a short method at line " + (start + 1), i - start < 60);
            }
        }
    }
}
