import java.io.IOException;
import java.lang.reflect.Method;
import java.nio.file.Files;
import java.nio.file.Path;
import java.util.ArrayList;
import java.util.List;
import java.util.TreeSet;

/**
 * src/test/sentences.txt is the document, sentence by sentence, each with the methods that test it further in.
 * It has to be the document to the letter, its methods have to be there, and no edge may stand without a sentence.
 * .ci/run starts it at the root.
 */
public final class SentencesTest {
    private static final Path DOCUMENT = Path.of("../shared/DOC.md");
    private static final Path SENTENCES = Path.of("src/test/sentences.txt");
    private static final List<Class<?>> EDGES = List.of(EdgesOfTermsTest.class, EdgesOfSystemTest.class,
        EdgesOfHandTest.class, EdgesOfDrawsTest.class, EdgesOfSmallTest.class, EdgesByEachStateTest.class);

    public static void main(String[] args) throws IOException, ClassNotFoundException {
        StringBuilder text = new StringBuilder();
        TreeSet<String> named = new TreeSet<>();
        read(text, named);
        if (Files.exists(DOCUMENT)) {
            sameText(withoutLayout(Files.readString(DOCUMENT)), withoutLayout(text.toString()));
        } else {
            System.out.println("SentencesTest: " + DOCUMENT + " is not there, so the sentences are not compared with it");
        }
        TreeSet<String> edges = edges();
        for (String name : named) {
            Due.isTrue("there is a test " + name, edges.contains(name) || isMethod(name));
        }
        for (String edge : edges) {
            Due.isTrue("a sentence names " + edge, named.contains(edge));
        }
        Due.end("SentencesTest");
    }

    /** Asks on the way that something stands behind each sentence: its tests, or why there are none. */
    private static void read(StringBuilder text, TreeSet<String> named) throws IOException {
        String sentence = "";
        boolean hasTests = true;
        for (String line : Files.readAllLines(SENTENCES)) {
            if (line.startsWith("    ")) {
                hasTests = true;
                if (!line.startsWith("    none: ")) {
                    named.addAll(List.of(line.trim().split(" ")));
                }
            } else if (!line.isEmpty()) {
                Due.isTrue("a test stands behind: " + sentence, hasTests);
                hasTests = false;
                sentence = line;
                text.append(line).append('\n');
            }
        }
        Due.isTrue("a test stands behind the last: " + sentence, hasTests);
    }

    private static String withoutLayout(String text) {
        return text.replaceAll("(?m)^(#.*|```.*)$", "").replaceAll("={8} \\d ", "").replaceAll("\\s+", " ").trim();
    }

    private static void sameText(String document, String sentences) {
        int same = 0;
        while (same < document.length() && same < sentences.length() && document.charAt(same) == sentences.charAt(same)) {
            same++;
        }
        Due.isTrue("the document and its sentences are the same, but from here on: "
            + document.substring(same, Math.min(document.length(), same + 80)), document.equals(sentences));
    }

    private static TreeSet<String> edges() {
        TreeSet<String> names = new TreeSet<>();
        for (Class<?> test : EDGES) {
            for (Method method : test.getDeclaredMethods()) {
                if (Edges.isCase(method)) {
                    names.add(method.getName());
                }
            }
        }
        return names;
    }

    private static boolean isMethod(String name) throws ClassNotFoundException {
        int dot = name.indexOf('.');
        List<String> found = new ArrayList<>();
        if (dot > 0) {
            for (Method method : Class.forName(name.substring(0, dot)).getDeclaredMethods()) {
                found.add(method.getName());
            }
        }
        return found.contains(name.substring(dot + 1));
    }
}
