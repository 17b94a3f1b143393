import java.io.IOException;
import java.lang.reflect.Constructor;
import java.lang.reflect.Field;
import java.lang.reflect.Method;
import java.lang.reflect.Modifier;
import java.nio.file.Files;
import java.nio.file.Path;
import java.util.ArrayList;
import java.util.Arrays;
import java.util.List;
import java.util.Set;
import java.util.TreeSet;
import java.util.regex.Matcher;
import java.util.regex.Pattern;

/** The public face of the document, and the rules of LANGUAGE.md that can be read off the class and its source. */
public final class FaceTest {
    private static final Path SOURCE = Path.of("src/main/java/UnsaidWell.java");
    private static final String[] FACE = {
        "feed(int)", "yard()", "fault()", "told(int)", "saying(int,int)", "person(int,int)", "queued(int,int)",
        "pour(int,int)", "say(int)", "vow(int,boolean)", "night(int)", "rain(int)", "queue(int,int)", "turn()",
        "drift(int)", "undo()", "state(int,int,int)", "best(int,int)", "alone(int,int)", "wasUnsaid(int,int,int)",
        "drought(int)", "rainy(int,int)", "write(int,boolean)", "tear()", "judge()", "seed(int)", "keep(int)",
        "goBack(int)"};
    private static final String[] CONSTANTS = {"NONE", "UNKNOWN", "OUTSIDE", "NOT", "FULL"};
    private static final String[] FORBIDDEN = {
        "import", "throw", "throws", "try", "catch", "synchronized", "assert", "package", "Exact", "->", "::"};
    private static int wrong = 0;

    private static void due(boolean is, String what) {
        if (!is) {
            wrong++;
            System.out.println("not so: " + what);
        }
    }

    public static void main(String[] args) throws IOException {
        face();
        classesInside();
        source();
        System.out.println(wrong == 0 ? "the face is as told" : wrong + " wrong");
        if (wrong != 0) {
            System.exit(1);
        }
    }

    private static String nameOf(Method m) {
        List<String> types = new ArrayList<>();
        for (Class<?> type : m.getParameterTypes()) {
            types.add(type.getName());
        }
        return m.getName() + "(" + String.join(",", types) + ")";
    }

    private static void face() {
        Class<?> c = UnsaidWell.class;
        due(Modifier.isPublic(c.getModifiers()) && Modifier.isFinal(c.getModifiers()), "public final class");
        Set<String> found = new TreeSet<>();
        for (Method m : c.getDeclaredMethods()) {
            if (!Modifier.isPrivate(m.getModifiers())) {
                found.add(nameOf(m));
                due(m.getReturnType() == int.class && !Modifier.isStatic(m.getModifiers()), nameOf(m) + " answers an int");
            }
        }
        due(found.equals(new TreeSet<>(Arrays.asList(FACE))), "the methods are those of the document: " + found);
        Constructor<?>[] makers = c.getDeclaredConstructors();
        due(makers.length == 1 && makers[0].getParameterCount() == 0, "one constructor without parameters");
        Set<String> constants = new TreeSet<>();
        for (Field f : c.getDeclaredFields()) {
            if (!Modifier.isPrivate(f.getModifiers())) {
                constants.add(f.getName());
                due(f.getType() == int.class && Modifier.isStatic(f.getModifiers()), f.getName() + " is a constant");
            }
            due(!Modifier.isStatic(f.getModifiers()) || Modifier.isFinal(f.getModifiers()), f.getName() + " is final");
        }
        due(constants.equals(new TreeSet<>(Arrays.asList(CONSTANTS))), "the constants are those of the document");
    }

    private static void classesInside() {
        Class<?>[] inside = UnsaidWell.class.getDeclaredClasses();
        due(inside.length <= 11, "some twelve classes at most");
        Set<String> names = new TreeSet<>();
        for (String method : FACE) {
            names.add(method.substring(0, method.indexOf('(')));
        }
        for (Class<?> c : inside) {
            due(Modifier.isStatic(c.getModifiers()) && !Modifier.isPublic(c.getModifiers()), c.getName() + " is static");
            due(c.getDeclaredFields().length <= 20, c.getName() + " has twenty fields at most");
            for (Method m : c.getDeclaredMethods()) {
                due(!names.contains(m.getName()), m.getName() + " bears no name of the face");
                due(m.getParameterCount() <= 7, m.getName() + " takes seven parameters at most");
            }
        }
    }

    private static void source() throws IOException {
        String code = Files.readString(SOURCE);
        for (int i = 0; i < code.length(); i++) {
            due(code.charAt(i) < 128, "plain signs alone, at " + i);
        }
        String bare = code.replaceAll("(?s)/\\*.*?\\*/", "").replaceAll("//[^\n]*", "");
        for (String word : FORBIDDEN) {
            boolean isSign = !Character.isLetter(word.charAt(0)) || word.equals("Exact");
            due(!Pattern.compile(isSign ? Pattern.quote(word) : "\\b" + word + "\\b").matcher(bare).find(), "no " + word);
        }
        Matcher library = Pattern.compile("\\b([A-Z][a-zA-Z]+)\\.(\\w+)").matcher(bare);
        Set<String> own = Set.of("Yard");
        while (library.find()) {
            boolean isAllowed = own.contains(library.group(1)) || Set.of("Math", "Integer").contains(library.group(1))
                    || library.group().equals("System.arraycopy");
            due(isAllowed, library.group() + " stands in the library's list");
        }
        methodsAreShort(bare);
    }

    private static void methodsAreShort(String bare) {
        int start = -1;
        String[] lines = bare.split("\n");
        for (int i = 0; i < lines.length; i++) {
            boolean isHead = lines[i].matches(" {4}( {4})?\\w[^=;]*\\(.*\\) \\{");
            if (isHead) {
                start = i;
            }
            if (start >= 0 && lines[i].matches(" {4}( {4})?\\}")) {
                due(i - start < 60, "a method of sixty lines at most: " + lines[start].trim());
                start = -1;
            }
        }
    }
}
