import java.io.IOException;
import java.lang.reflect.Constructor;
import java.lang.reflect.Field;
import java.lang.reflect.Method;
import java.lang.reflect.Modifier;
import java.nio.file.Files;
import java.nio.file.Path;
import java.util.ArrayList;
import java.util.List;
import java.util.TreeSet;
import java.util.regex.Matcher;
import java.util.regex.Pattern;

/** What of LANGUAGE.md can be seen from the text of the class and from its members. */
public final class LanguageTest {
    private static final String SOURCE = "src/main/java/KeyDesk.java";
    private static final String[] FACE = {"feed", "end", "plan", "setting", "begin", "signal", "key", "sample",
        "pass", "check", "winnow", "send", "shorten", "slip", "undo", "order", "ledger", "isIn", "rank", "fixed",
        "last", "spied", "block", "secret", "would", "best", "seeds", "noise", "rounds", "image", "back", "count"};
    private static final String[] NOT_ALLOWED = {"throw", "throws", "try", "catch", "finally", "synchronized",
        "assert", "->", "::", "instanceof", "extends", "static \\{", "String\\.", "Object", "Random", "System\\.(?!arraycopy)",
        "Exact", "float", "double", "import (?!java\\.util\\.Arrays;)", "while \\(true\\)", "for \\(;;\\)", "HashMap",
        "Math\\.(?!min|max|abs|floorMod|floorDiv)", "Arrays\\.(?!fill|copyOf)", "\\bthis\\b"};

    private static int wrong = 0;

    private static void isSo(String rule, boolean so) {
        if (!so) {
            wrong++;
            System.out.println("not so: " + rule);
        }
    }

    private static String withoutCommentsAndTexts(String source) {
        return source.replaceAll("(?s)/\\*.*?\\*/", "").replaceAll("//[^\n]*", "").replaceAll("\"[^\"\n]*\"", "\"\"");
    }

    private static void members() {
        TreeSet<String> names = new TreeSet<>(List.of(FACE));
        TreeSet<String> found = new TreeSet<>();
        List<Class<?>> classes = new ArrayList<>(List.of(KeyDesk.class.getDeclaredClasses()));
        isSo("public and final", KeyDesk.class.getModifiers() == (Modifier.PUBLIC | Modifier.FINAL));
        for (Method m : KeyDesk.class.getDeclaredMethods()) {
            boolean isPublic = Modifier.isPublic(m.getModifiers());
            isSo("private or of the face: " + m.getName(), isPublic || Modifier.isPrivate(m.getModifiers()));
            isSo("a name of the face is public: " + m.getName(), names.contains(m.getName()) == isPublic);
            isSo("answers an int: " + m.getName(), !isPublic || m.getReturnType() == int.class);
            if (isPublic) {
                isSo("once: " + m.getName(), found.add(m.getName()));
            }
        }
        isSo("the whole face", found.equals(names));
        for (Field f : KeyDesk.class.getDeclaredFields()) {
            isSo("private but NONE: " + f.getName(), f.getName().equals("NONE") || Modifier.isPrivate(f.getModifiers()));
        }
        for (Constructor<?> c : KeyDesk.class.getDeclaredConstructors()) {
            isSo("the constructor", Modifier.isPublic(c.getModifiers()) && c.getParameterCount() == 0);
        }
        isSo("some twelve classes", classes.size() < 12);
        classes.add(KeyDesk.class);
        for (Class<?> c : classes) {
            isSo("static: " + c.getName(), c == KeyDesk.class || Modifier.isStatic(c.getModifiers()));
            int fields = 0;
            for (Field f : c.getDeclaredFields()) {
                fields += Modifier.isStatic(f.getModifiers()) ? 0 : 1;
                isSo("static is final: " + f.getName(),
                    !Modifier.isStatic(f.getModifiers()) || Modifier.isFinal(f.getModifiers()));
            }
            isSo("some twenty fields: " + c.getName(), fields <= 20);
            for (Method m : c.getDeclaredMethods()) {
                isSo("seven parameters: " + m.getName(), m.getParameterCount() <= 7);
                isSo("no name of the face: " + m.getName(), c == KeyDesk.class || !names.contains(m.getName()));
            }
        }
    }

    private static void lengths(String[] lines) {
        int begin = -1;
        String indent = "";
        for (int k = 0; k < lines.length; k++) {
            Matcher m = Pattern.compile("^( {4,8})\\S.*\\) \\{$").matcher(lines[k]);
            if (begin < 0 && m.matches()) {
                begin = k;
                indent = m.group(1);
            } else if (begin >= 0 && lines[k].equals(indent + "}")) {
                isSo("some sixty lines, at " + (begin + 1), k - begin < 60);
                begin = -1;
            }
        }
    }

    public static void main(String[] args) throws IOException {
        String source = Files.readString(Path.of(SOURCE));
        String code = withoutCommentsAndTexts(source);
        for (String part : NOT_ALLOWED) {
            boolean isWord = part.matches("[a-z]+");
            Matcher m = Pattern.compile(isWord ? "\\b" + part + "\\b" : part).matcher(code);
            isSo("without " + part, !m.find());
        }
        isSo("no package", !code.contains("package "));
        isSo("no texts joined by +", !code.contains("\" +") && !code.contains("+ \""));
        for (int k = 0; k < source.length(); k++) {
            isSo("signs 1 to 127", source.charAt(k) < 128);
        }
        members();
        lengths(source.split("\n"));
        System.out.println(wrong == 0 ? "the class keeps to what can be seen of LANGUAGE.md" : wrong + " rules are broken");
        if (wrong != 0) {
            System.exit(1);
        }
    }
}
