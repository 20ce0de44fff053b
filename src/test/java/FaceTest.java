import java.io.IOException;
import java.lang.reflect.Constructor;
import java.lang.reflect.Field;
import java.lang.reflect.Method;
import java.lang.reflect.Modifier;
import java.nio.file.Files;
import java.nio.file.Path;
import java.util.Arrays;
import java.util.Set;
import java.util.TreeSet;
import java.util.regex.Matcher;
import java.util.regex.Pattern;

/** The public face of the document, and those rules of LANGUAGE.md that can be looked at plainly. */
public final class FaceTest {
    private static final Check CHECK = new Check();
    private static final Path SOURCE = Path.of("src/main/java/DrumLayers.java");

    private static String listed(Set<String> some) {
        return String.join("; ", some);
    }

    private static void theFace() {
        Set<String> due = new TreeSet<>(Arrays.asList("feed(int int int int) int", "submit(int int int int int) int",
                "tick(int) int", "done(int) boolean", "type(int) boolean", "process(int int) int", "job(int int) int",
                "paper(int int) int", "word(int int) int", "frame(int int) int", "about(int) int", "octet(int) int"));
        Set<String> got = new TreeSet<>();
        for (Method m : DrumLayers.class.getDeclaredMethods()) {
            if (!Modifier.isPrivate(m.getModifiers())) {
                StringBuilder types = new StringBuilder();
                for (Class<?> type : m.getParameterTypes()) {
                    types.append(types.length() == 0 ? "" : " ").append(type.getName());
                }
                got.add(m.getName() + "(" + types + ") " + m.getReturnType().getName());
                CHECK.due(m.getName() + " is public, not static", Modifier.isPublic(m.getModifiers())
                        && !Modifier.isStatic(m.getModifiers()), true);
            }
        }
        CHECK.due("methods", listed(got), listed(due));
        Constructor<?>[] made = DrumLayers.class.getDeclaredConstructors();
        CHECK.due("constructors", made.length, 1);
        CHECK.due("constructor", made[0].toString(), "public DrumLayers(int,int,int)");
        for (Field f : DrumLayers.class.getDeclaredFields()) {
            boolean open = !Modifier.isPrivate(f.getModifiers());
            CHECK.due("field " + f.getName(), open, f.getName().equals("NONE"));
            CHECK.due("field " + f.getName() + " is final", Modifier.isFinal(f.getModifiers()), true);
        }
        CHECK.due("final", Modifier.toString(DrumLayers.class.getModifiers()), "public final");
    }

    private static void theClassesInside() {
        Set<String> face = new TreeSet<>();
        for (Method m : DrumLayers.class.getDeclaredMethods()) {
            if (Modifier.isPublic(m.getModifiers())) {
                face.add(m.getName());
            }
        }
        Class<?>[] inside = DrumLayers.class.getDeclaredClasses();
        CHECK.due("not too many classes", inside.length < 12, true);
        for (Class<?> c : inside) {
            CHECK.due(c.getName() + " is static", Modifier.isStatic(c.getModifiers()), true);
            CHECK.due(c.getName() + " is not public", Modifier.isPublic(c.getModifiers()), false);
            int fields = 0;
            for (Field f : c.getDeclaredFields()) {
                fields += Modifier.isStatic(f.getModifiers()) ? 0 : 1;
                CHECK.due(c.getName() + "." + f.getName() + " is not static state",
                        Modifier.isStatic(f.getModifiers()) && !Modifier.isFinal(f.getModifiers()), false);
            }
            CHECK.due(c.getName() + " has not too many fields", fields <= 21, true);
            for (Method m : c.getDeclaredMethods()) {
                CHECK.due(m.getName() + " is no name of the face", face.contains(m.getName()), false);
                CHECK.due(m.getName() + " has not too many parameters", m.getParameterCount() <= 7, true);
            }
        }
    }

    private static void theSource() throws IOException {
        String source = Files.readString(SOURCE);
        String code = source.replaceAll("(?s)/\\*.*?\\*/", "").replaceAll("//[^\n]*", "");
        for (String word : new String[] {"throw", "try", "catch", "synchronized", "assert", "package", "->", "::",
            "Exact", "System.out", "System.nano", "System.current", "Random", "Thread", "hashCode", "toString",
            "equals", "Object", "HashMap", "var"}) {
            String pattern = Character.isLetter(word.charAt(0)) ? "\\b" + word + "\\b" : Pattern.quote(word);
            CHECK.due("'" + word + "' stands in the source", Pattern.compile(pattern).matcher(code).find(), false);
        }
        Matcher imports = Pattern.compile("import ([^;]*);").matcher(code);
        while (imports.find()) {
            CHECK.due("import", imports.group(1), "java.util.Arrays");
        }
        int start = 0;
        String[] lines = source.split("\n");
        for (int i = 0; i < lines.length; i++) {
            if (lines[i].matches("    (    )?[a-zA-Z].*[({] ?.*\\{") && !lines[i].contains(" class ")) {
                start = i;
            }
            if (lines[i].matches("    (    )?\\}")) {
                CHECK.due("the method at line " + (start + 1) + " is short", i - start <= 62, true);
            }
        }
    }

    public static void main(String[] args) throws IOException {
        theFace();
        theClassesInside();
        theSource();
        CHECK.finish();
    }
}
