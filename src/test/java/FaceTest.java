import java.io.IOException;
import java.lang.reflect.Constructor;
import java.lang.reflect.Field;
import java.lang.reflect.Method;
import java.lang.reflect.Modifier;
import java.nio.charset.StandardCharsets;
import java.nio.file.Files;
import java.nio.file.Path;
import java.util.ArrayList;
import java.util.List;
import java.util.TreeSet;

/** The class has the document's face and no more, and keeps to those rules of the language that can be read off. */
public final class FaceTest {
    private static int wrong = 0;

    private static void tell(String what) {
        wrong++;
        System.out.println(what);
    }

    private static String document() throws IOException {
        return Files.readString(Path.of("..", "shared", "DOC.md"), StandardCharsets.UTF_8);
    }

    /** The lines of the document's interface, as a method's name, its types and its exceptions. */
    private static TreeSet<String> faceOfDocument() throws IOException {
        TreeSet<String> face = new TreeSet<>();
        for (String line : document().split("\n")) {
            if (!line.startsWith("    public ") || !line.endsWith(";")) continue;
            String text = line.substring("    public ".length(), line.length() - 1);
            int open = text.indexOf('(');
            int close = text.indexOf(')');
            StringBuilder sign = new StringBuilder(text.substring(0, open)).append('(');
            for (String parameter : text.substring(open + 1, close).split(",")) {
                if (!parameter.isBlank()) sign.append(parameter.trim().split(" ")[0]).append(' ');
            }
            sign.append(')');
            if (text.indexOf("throws") > 0) sign.append(text.substring(text.indexOf("throws") + 6).replace(" ", ""));
            face.add(sign.toString());
        }
        return face;
    }

    private static String exceptions(Class<?>[] types) {
        List<String> names = new ArrayList<>();
        for (Class<?> type : types) names.add(type.getSimpleName());
        return String.join(",", names);
    }

    private static String parameters(Class<?>[] types) {
        StringBuilder text = new StringBuilder("(");
        for (Class<?> type : types) text.append(type.getSimpleName()).append(' ');
        return text.append(')').toString();
    }

    private static TreeSet<String> faceOfClass() {
        TreeSet<String> face = new TreeSet<>();
        for (Constructor<?> c : Urelementary.class.getDeclaredConstructors()) {
            face.add("Urelementary" + parameters(c.getParameterTypes()) + exceptions(c.getExceptionTypes()));
        }
        for (Method m : Urelementary.class.getDeclaredMethods()) {
            if (Modifier.isPrivate(m.getModifiers())) continue;
            if (!Modifier.isPublic(m.getModifiers()) || Modifier.isStatic(m.getModifiers())) tell("not public: " + m);
            face.add(m.getReturnType().getSimpleName() + " " + m.getName() + parameters(m.getParameterTypes()) + exceptions(m.getExceptionTypes()));
        }
        return face;
    }

    private static void weighFace() throws IOException {
        TreeSet<String> due = faceOfDocument();
        TreeSet<String> got = faceOfClass();
        if (due.size() != 54) tell("the document's face has " + due.size() + " members");
        for (String each : due) if (!got.contains(each)) tell("lacks " + each);
        for (String each : got) if (!due.contains(each)) tell("too much: " + each);
        int modifiers = Urelementary.class.getModifiers();
        if (!Modifier.isPublic(modifiers) || !Modifier.isFinal(modifiers)) tell("the class is not public and final");
        if (Urelementary.class.getSuperclass() != Object.class || Urelementary.class.getInterfaces().length > 0) tell("the class extends another one");
    }

    /** Each line of the interface stands in the source, word by word, with its parameters' names, and in its order. */
    private static void weighWords() throws IOException {
        String source = Files.readString(Path.of("src", "main", "java", "Urelementary.java"), StandardCharsets.UTF_8);
        String text = source.replaceAll("\\s+", " ");
        int from = 0;
        int lines = 0;
        for (String line : document().split("\n")) {
            if (!line.startsWith("    public ") || !line.endsWith(";")) continue;
            lines++;
            int at = text.indexOf(line.trim().replace(";", " {"), from);
            if (at < 0) tell("not so, or not there, in the source: " + line.trim());
            else from = at;
        }
        if (lines != 54) tell("the document's face has " + lines + " lines");
        for (String line : document().split("\n")) {
            int at = line.indexOf("the interface says: ");
            if (at >= 0 && !source.contains("    // " + line.substring(at + 20, line.length() - 1) + "\n")) tell("lacks: " + line.substring(at + 20));
        }
    }

    private static void weighMembers(Class<?> type, TreeSet<String> names) {
        int fields = 0;
        for (Field f : type.getDeclaredFields()) {
            if (Modifier.isStatic(f.getModifiers())) {
                String kind = f.getType().getSimpleName();
                if (!Modifier.isFinal(f.getModifiers())) tell("static state: " + f);
                if (!kind.matches("int|long|boolean|char|String|(int|long|char|byte)\\[\\]")) tell("a static field of a strange type: " + f);
            } else {
                fields++;
            }
            if (type == Urelementary.class && !Modifier.isPrivate(f.getModifiers())) tell("open field: " + f);
        }
        if (fields > 20) tell(type + " has " + fields + " fields");
        for (Method m : type.getDeclaredMethods()) {
            if (m.getParameterCount() > 7) tell("too many parameters: " + m);
            if (!Modifier.isPublic(m.getModifiers()) && names.contains(m.getName())) tell("a face's name: " + m);
        }
    }

    private static void weighClasses() {
        TreeSet<String> names = new TreeSet<>();
        for (Method m : Urelementary.class.getMethods()) if (m.getDeclaringClass() == Urelementary.class) names.add(m.getName());
        weighMembers(Urelementary.class, names);
        Class<?>[] inner = Urelementary.class.getDeclaredClasses();
        if (inner.length > 11) tell(inner.length + " classes inside");
        for (Class<?> each : inner) {
            if (!Modifier.isStatic(each.getModifiers()) || !Modifier.isPrivate(each.getModifiers())) tell(each + " is not private and static");
            weighMembers(each, names);
        }
    }

    private static void weighSource() throws IOException {
        String source = Files.readString(Path.of("src", "main", "java", "Urelementary.java"), StandardCharsets.UTF_8);
        String[] lines = source.split("\n");
        for (String word : new String[] {"->", "::", "finally", "try {", "catch (", "synchronized", "assert ", "instanceof", "Exact(", "package ", "static {", "System.out", "nanoTime", "currentTime"}) {
            if (source.contains(word)) tell("the source has '" + word + "'");
        }
        int start = -1;
        for (int i = 0; i < lines.length; i++) {
            String line = lines[i];
            for (int k = 0; k < line.length(); k++) if (line.charAt(k) > 126) tell("a strange sign in line " + (i + 1));
            if (line.startsWith("import ") && !line.equals("import java.util.Arrays;") && !line.equals("import java.util.NoSuchElementException;")) tell(line);
            boolean opens = line.matches(" {4,8}(public|private) [^=;]*\\(.*") || line.matches(" {4,8}(public|private) [^=;]*\\(.*\\{");
            if (opens) start = i;
            if (start >= 0 && line.matches(" {4,8}\\}")) {
                if (i - start + 1 > 60) tell("a long method from line " + (start + 1));
                start = -1;
            }
            if (line.contains("throw ") && !line.matches(" {12}throw new (IllegalState|IllegalArgument|IndexOutOfBounds|UnsupportedOperation|NoSuchElement)Exception\\(\"[^\"]*\"\\);")) {
                tell("a strange throw in line " + (i + 1));
            }
        }
    }

    public static void main(String[] args) throws IOException {
        weighFace();
        weighWords();
        weighClasses();
        weighSource();
        System.out.println(wrong == 0 ? "the face and the rules stand" : wrong + " faults");
        if (wrong != 0) System.exit(1);
    }
}
