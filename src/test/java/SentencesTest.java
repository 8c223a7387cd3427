import java.io.IOException;
import java.lang.reflect.Method;
import java.nio.file.Files;
import java.nio.file.Path;
import java.util.Arrays;
import java.util.HashMap;
import java.util.HashSet;
import java.util.Map;
import java.util.Set;
import java.util.regex.Matcher;
import java.util.regex.Pattern;

/** The words that tests name stand in the document, and none of its sentences is without a test. */
public final class SentencesTest {
    private static final Path DOC = Path.of("../shared/DOC.md");
    private static final int PROMISES = 33;
    /** The key of the terms, which all promises rest on. */
    private static final int TERMS = 0;

    private static int wrong = 0;

    private static void fault(String what) {
        wrong++;
        System.out.println(what);
    }

    private static String inOneLine(String text) {
        return text.replace("```text", " ").replace("```", " ").replaceAll("==== I+\\.", " ").replaceAll("\\s+", " ").trim();
    }

    /** Each part's words: of the terms, and of each promise behind the call that it tells. */
    private static Map<Integer, String> parts(String doc) {
        Map<Integer, String> parts = new HashMap<>();
        Matcher m = Pattern.compile("(?s)\n## ([^\n]*)\n(.*?)(?=\n## |$)").matcher(doc + "\n## ");
        while (m.find()) {
            Matcher promise = Pattern.compile("Promise (\\d+): .*").matcher(m.group(1));
            if (m.group(1).equals("Terms")) {
                parts.put(TERMS, inOneLine(m.group(2)));
            } else if (promise.matches()) {
                parts.put(Integer.parseInt(promise.group(1)), inOneLine(m.group(2).trim().replaceFirst("^`[^`]*`:", "")));
            }
        }
        return parts;
    }

    private static boolean mark(String text, boolean[] met, String words) {
        boolean found = false;
        for (int at = text.indexOf(words); at >= 0; at = text.indexOf(words, at + 1)) {
            Arrays.fill(met, at, at + words.length(), true);
            found = true;
        }
        return found;
    }

    private static void tellUnmet(int part, String text, boolean[] met) {
        StringBuilder unmet = new StringBuilder();
        for (int k = 0; k < text.length(); k++) {
            unmet.append(met[k] ? '\n' : text.charAt(k));
        }
        for (String piece : unmet.toString().split("\n+")) {
            if (piece.matches("(?s).*[A-Za-z0-9].*")) {
                fault((part == TERMS ? "terms" : "promise " + part) + ": no test for \"" + piece.trim() + "\"");
            }
        }
    }

    public static void main(String[] args) throws IOException {
        if (!Files.exists(DOC)) {
            // The document need not stand beside each checkout; the tests themselves run all the same.
            System.out.println("there is no " + DOC + " to compare with");
            return;
        }
        Map<Integer, String> parts = parts(Files.readString(DOC));
        Map<Integer, boolean[]> met = new HashMap<>();
        parts.forEach((part, text) -> met.put(part, new boolean[text.length()]));
        if (parts.size() != PROMISES + 1) {
            fault("the document has " + parts.size() + " parts");
        }
        int tests = 0;
        Set<Integer> promises = new HashSet<>();
        for (Class<?> some : Edges.ALL) {
            for (Method test : Edges.testsOf(some)) {
                Sentence s = test.getAnnotation(Sentence.class);
                tests++;
                promises.add(s.promise());
                boolean inTerms = mark(parts.get(TERMS), met.get(TERMS), s.words());
                boolean inPromise = parts.containsKey(s.promise()) && mark(parts.get(s.promise()), met.get(s.promise()), s.words());
                if (!inTerms && !inPromise) {
                    fault(test.getName() + ": not of the document: \"" + s.words() + "\"");
                }
                if (!test.getName().startsWith(String.format("p%02d_", s.promise()))) {
                    fault(test.getName() + " is for promise " + s.promise());
                }
            }
        }
        if (promises.size() != PROMISES) {
            fault("tests for " + promises.size() + " promises alone");
        }
        parts.forEach((part, text) -> tellUnmet(part, text, met.get(part)));
        System.out.println(wrong == 0 ? tests + " tests name all sentences" : wrong + " faults");
        if (wrong != 0) {
            System.exit(1);
        }
    }
}
