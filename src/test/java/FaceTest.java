import java.io.IOException;
import java.lang.reflect.Constructor;
import java.lang.reflect.Field;
import java.lang.reflect.Method;
import java.lang.reflect.Modifier;
import java.nio.file.Files;
import java.nio.file.Path;
import java.util.TreeSet;
import java.util.regex.Matcher;
import java.util.regex.Pattern;

/** The public face: each line of the document's code block, just as it stands there, and nothing else. */
public final class FaceTest {
    private static final Path DOC = Path.of("../shared/DOC.md");
    private static final Path SOURCE = Path.of("src/main/java/KeyDesk.java");
    private static final String MEMBER = "(?m)^    (public .*?)( \\{|;)$";

    private static int wrong = 0;

    private static void isSo(String what, boolean so) {
        if (!so) {
            wrong++;
            System.out.println("not so: " + what);
        }
    }

    private static TreeSet<String> membersIn(String text) {
        TreeSet<String> found = new TreeSet<>();
        Matcher m = Pattern.compile(MEMBER).matcher(text);
        while (m.find()) {
            isSo("once: " + m.group(1), found.add(m.group(1)));
        }
        return found;
    }

    /** The face that the compiled class has, without the names of parameters, which it does not keep. */
    private static TreeSet<String> membersOfClass() {
        TreeSet<String> found = new TreeSet<>();
        for (Field f : KeyDesk.class.getDeclaredFields()) {
            if (!Modifier.isPrivate(f.getModifiers())) {
                found.add(Modifier.toString(f.getModifiers()) + " " + f.getType() + " " + f.getName());
            }
        }
        for (Constructor<?> c : KeyDesk.class.getDeclaredConstructors()) {
            if (!Modifier.isPrivate(c.getModifiers())) {
                found.add(Modifier.toString(c.getModifiers()) + " KeyDesk" + typesOf(c.getParameterTypes()));
            }
        }
        for (Method m : KeyDesk.class.getDeclaredMethods()) {
            if (!Modifier.isPrivate(m.getModifiers())) {
                found.add(Modifier.toString(m.getModifiers()) + " " + m.getReturnType() + " " + m.getName()
                    + typesOf(m.getParameterTypes()));
            }
        }
        return found;
    }

    private static String typesOf(Class<?>[] types) {
        StringBuilder s = new StringBuilder("(");
        for (Class<?> type : types) {
            s.append(s.length() > 1 ? ", " : "").append(type);
        }
        return s.append(")").toString();
    }

    private static TreeSet<String> withoutNames(TreeSet<String> members) {
        TreeSet<String> found = new TreeSet<>();
        for (String member : members) {
            found.add(member.replaceAll("(int|boolean) \\w+(?=[,)])", "$1").replaceAll(" = .*", ""));
        }
        return found;
    }

    public static void main(String[] args) throws IOException {
        if (!Files.exists(DOC)) {
            // The document need not stand beside each checkout; LanguageTest knows the names, too.
            System.out.println("there is no " + DOC + " to compare with");
            return;
        }
        Matcher block = Pattern.compile("(?s)```java\n(.*?)```").matcher(Files.readString(DOC));
        isSo("the document has a face", block.find());
        String face = block.group(1);
        String source = Files.readString(SOURCE);
        TreeSet<String> due = membersIn(face);
        isSo("the class as it stands: " + face.split("\n")[0], ("\n" + source).contains("\n" + face.split("\n")[0] + "\n"));
        TreeSet<String> there = membersIn(source);
        for (String member : due) {
            isSo("in the class: " + member, there.contains(member));
        }
        for (String member : there) {
            isSo("in the document: " + member, due.contains(member));
        }
        isSo("the compiled class has this face alone: " + membersOfClass(), membersOfClass().equals(withoutNames(due)));
        isSo("NONE is -1", KeyDesk.NONE == -1);
        System.out.println(wrong == 0 ? "the face is the document's, " + due.size() + " members" : wrong + " faults");
        if (wrong != 0) {
            System.exit(1);
        }
    }
}
