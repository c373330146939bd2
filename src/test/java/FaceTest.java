import java.lang.reflect.Constructor;
import java.lang.reflect.Field;
import java.lang.reflect.Method;
import java.lang.reflect.Modifier;
import java.nio.charset.StandardCharsets;
import java.nio.file.Files;
import java.nio.file.Path;
import java.util.ArrayList;
import java.util.List;
import java.util.Set;
import java.util.TreeSet;
import java.util.regex.Matcher;
import java.util.regex.Pattern;

/** The public face as the document tells it, and the rules of LANGUAGE.md that can be seen from outside. */
public final class FaceTest {
    private static final Check check = new Check("FaceTest");

    public static void main(String[] args) throws Exception {
        constants();
        methods();
        hidden();
        source();
        check.end();
    }

    private static void constants() throws Exception {
        check.same("NONE", DrumSlits.NONE, -1);
        check.same("BAD", DrumSlits.BAD, -2);
        check.same("NOT", DrumSlits.NOT, -3);
        check.same("FULL", DrumSlits.FULL, -4);
        check.same("public fields", DrumSlits.class.getFields().length, 4);
        check.same("final", Modifier.isFinal(DrumSlits.class.getModifiers()) ? 1 : 0, 1);
        check.same("public constructors", DrumSlits.class.getConstructors().length, 1);
        Constructor<?> made = DrumSlits.class.getConstructor();
        check.same("made", made.newInstance() == null ? 0 : 1, 1);
    }

    /** The methods of the face, read from the document. */
    private static void methods() throws Exception {
        Path doc = Path.of("..", "shared", "DOC.md");
        Matcher line = Pattern.compile("(?m)^    public (int|long) (\\w+)\\(([^)]*)\\);$").matcher(Files.readString(doc));
        Set<String> due = new TreeSet<>();
        while (line.find()) {
            int numbers = line.group(3).isEmpty() ? 0 : line.group(3).split(",").length;
            due.add(line.group(1) + " " + line.group(2) + " " + numbers);
        }
        Set<String> told = new TreeSet<>();
        for (Method m : DrumSlits.class.getDeclaredMethods()) {
            if (Modifier.isPublic(m.getModifiers())) {
                told.add(m.getReturnType() + " " + m.getName() + " " + m.getParameterCount());
            }
        }
        check.same("40 methods", due.size(), 40);
        check.same("the face " + due + " is " + told, due.equals(told) ? 1 : 0, 1);
    }

    private static void hidden() {
        Set<String> face = new TreeSet<>();
        for (Method m : DrumSlits.class.getMethods()) {
            if (m.getDeclaringClass() == DrumSlits.class) {
                face.add(m.getName());
            }
        }
        for (Method m : DrumSlits.class.getDeclaredMethods()) {
            boolean open = Modifier.isPublic(m.getModifiers()) || Modifier.isPrivate(m.getModifiers());
            check.same("public or private: " + m, open ? 1 : 0, 1);
            own(face, m);
        }
        for (Field f : DrumSlits.class.getDeclaredFields()) {
            boolean open = Modifier.isPublic(f.getModifiers()) || Modifier.isPrivate(f.getModifiers());
            check.same("public or private: " + f, open ? 1 : 0, 1);
        }
        Class<?>[] inside = DrumSlits.class.getDeclaredClasses();
        check.same("at most twelve classes", inside.length <= 11 ? 1 : 0, 1);
        for (Class<?> c : inside) {
            check.same("static: " + c, Modifier.isStatic(c.getModifiers()) ? 1 : 0, 1);
            check.same("not public: " + c, Modifier.isPublic(c.getModifiers()) ? 1 : 0, 0);
            for (Method m : c.getDeclaredMethods()) {
                own(face, m);
            }
        }
    }

    private static void own(Set<String> face, Method m) {
        boolean foreign = !Modifier.isPublic(m.getModifiers()) && face.contains(m.getName());
        check.same("a name of its own: " + m, foreign ? 1 : 0, 0);
        check.same("at most seven parameters: " + m, m.getParameterCount() <= 7 ? 1 : 0, 1);
    }

    private static void source() throws Exception {
        byte[] bytes = Files.readAllBytes(Path.of("src", "main", "java", "DrumSlits.java"));
        for (byte b : bytes) {
            if (b < 1) {
                check.same("a sign of 1 to 127", b, 1);
            }
        }
        String text = new String(bytes, StandardCharsets.US_ASCII).replaceAll("(?s)/\\*.*?\\*/|//[^\n]*", "");
        List<String> ruledOut = new ArrayList<>(List.of("throw", "throws", "try", "catch", "synchronized", "assert",
            "Object", "hashCode", "toString", "System.out", "Exact", "goto", "protected", "package", "volatile"));
        for (String word : ruledOut) {
            Matcher found = Pattern.compile("\\b\\w*" + Pattern.quote(word) + "\\b").matcher(text);
            boolean stands = false;
            while (found.find()) {
                stands |= found.group().equals(word) || word.equals("Exact");
            }
            check.same("no " + word, stands ? 1 : 0, 0);
        }
        check.same("no lambda", text.contains("->") ? 1 : 0, 0);
        check.same("no method reference", text.contains("::") ? 1 : 0, 0);
        check.same("one import", text.split("\nimport |^import ", -1).length - 1, 1);
        check.same("of Arrays", text.contains("import java.util.Arrays;") ? 1 : 0, 1);
        library(text.replaceAll("import [^;]*;", ""));
    }

    /** Rule 4: of the library's classes only functions that it lists; no constant of theirs. */
    private static void library(String text) {
        Set<String> listed = Set.of("Math.abs", "Math.min", "Math.max", "Math.floorDiv", "Math.floorMod",
            "Integer.bitCount", "System.arraycopy", "Arrays.fill");
        Matcher used = Pattern.compile("\\b(Math|Integer|Long|System|Arrays)\\.\\w+").matcher(text);
        while (used.find()) {
            check.same("of the library: " + used.group(), listed.contains(used.group()) ? 1 : 0, 1);
        }
    }
}
