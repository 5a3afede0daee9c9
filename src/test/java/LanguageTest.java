import java.io.IOException;
import java.lang.reflect.Constructor;
import java.lang.reflect.Field;
import java.lang.reflect.Method;
import java.lang.reflect.Modifier;
import java.nio.charset.StandardCharsets;
import java.nio.file.Files;
import java.nio.file.Path;
import java.util.ArrayList;
import java.util.Collections;
import java.util.List;
import java.util.Set;
import java.util.TreeSet;
import java.util.regex.Matcher;
import java.util.regex.Pattern;

/** The face of the class, and those rules of LANGUAGE.md that can be seen in its text. */
public final class LanguageTest {
    private static final List<String> FACE = List.of(
            "int feed(int,int,int,int,int)", "boolean end(int)", "int program()", "int fault(int)", "int has(int)",
            "boolean put(int,int,int)", "boolean undo()", "boolean redo()", "long input(int,boolean)", "int run()",
            "int ran(int)", "long result(int,boolean)", "long near(boolean)", "long forward(int,int,boolean)",
            "long backward(int,int,boolean)", "long twice(int,int,int,boolean)",
            "long difference(int,int,int,int,boolean)", "int moves(int)", "int ways(int,int)", "int groups()",
            "int group(int)", "int again(int,int)", "int first(int,int)");
    private static final String[] FORBIDDEN = {"throw", "throws", "try", "catch", "synchronized", "assert", "import",
        "package", "protected", "Exception", "Object", "System\\.(?!arraycopy)", "\\w+Exact", "->", "::", "hashCode",
        "toString"};

    private LanguageTest() {
    }

    public static void main(String[] args) throws IOException {
        face();
        nestedClasses();
        String source = Files.readString(Path.of("src/main/java/SlopeRunner.java"), StandardCharsets.ISO_8859_1);
        words(source);
        places(source);
        Check.finish();
    }

    private static void face() {
        Set<String> names = new TreeSet<>();
        List<String> found = new ArrayList<>();
        for (Method m : SlopeRunner.class.getDeclaredMethods()) {
            if (!Modifier.isPrivate(m.getModifiers())) {
                found.add(signature(m));
                names.add(m.getName());
                Check.due(m + " is public", Modifier.isPublic(m.getModifiers()) && !Modifier.isStatic(m.getModifiers()), true);
            }
        }
        List<String> face = new ArrayList<>(FACE);
        Collections.sort(face);
        Collections.sort(found);
        Check.due("the face is " + found, face.equals(found), true);
        Check.due("the class is public and final", SlopeRunner.class.getModifiers() & (Modifier.PUBLIC | Modifier.FINAL),
                Modifier.PUBLIC | Modifier.FINAL);
        int constants = 0;
        for (Field f : SlopeRunner.class.getDeclaredFields()) {
            if (!Modifier.isPrivate(f.getModifiers())) {
                constants++;
                Check.due(f + " is a constant of the face", f.getName().equals("NONE") || f.getName().equals("NO"), true);
            }
        }
        Check.due("constants", constants, 2);
        Constructor<?>[] made = SlopeRunner.class.getDeclaredConstructors();
        Check.due("constructors", made.length, 1);
        Check.due("its parameters", made[0].getParameterCount(), 0);
        privateNames(SlopeRunner.class, names);
        for (Class<?> c : SlopeRunner.class.getDeclaredClasses()) {
            privateNames(c, names);
        }
    }

    private static String signature(Method m) {
        List<String> types = new ArrayList<>();
        for (Class<?> t : m.getParameterTypes()) {
            types.add(t.getName());
        }
        return m.getReturnType().getName() + " " + m.getName() + "(" + String.join(",", types) + ")";
    }

    private static void privateNames(Class<?> c, Set<String> names) {
        for (Method m : c.getDeclaredMethods()) {
            boolean own = c == SlopeRunner.class && !Modifier.isPrivate(m.getModifiers());
            Check.due(m + " bears a name of the face", !own && names.contains(m.getName()), false);
            Check.due(m + " has few parameters", m.getParameterCount() <= 7, true);
        }
    }

    private static void nestedClasses() {
        Class<?>[] nested = SlopeRunner.class.getDeclaredClasses();
        Check.due("there are at most twelve classes", nested.length + 1 <= 12, true);
        for (Class<?> c : nested) {
            Check.due(c + " is static", Modifier.isStatic(c.getModifiers()), true);
            Check.due(c + " is not public", Modifier.isPublic(c.getModifiers()), false);
            int fields = 0;
            for (Field f : c.getDeclaredFields()) {
                fields += Modifier.isStatic(f.getModifiers()) ? 0 : 1;
                boolean fixed = !Modifier.isStatic(f.getModifiers()) || Modifier.isFinal(f.getModifiers());
                Check.due(f + " is no changing static", fixed, true);
            }
            Check.due(c + " has at most twenty fields", fields <= 20, true);
        }
    }

    private static void words(String source) {
        String code = source.replaceAll("(?s)/\\*.*?\\*/", " ").replaceAll("//[^\n]*", " ").replaceAll("\"[^\"\n]*\"", "\"\"");
        for (String word : FORBIDDEN) {
            String pattern = Character.isLetter(word.charAt(0)) ? "\\b" + word + (word.endsWith(")") ? "" : "\\b") : word;
            Matcher m = Pattern.compile(pattern).matcher(code);
            Check.due("the text has " + word, m.find(), false);
        }
        // What is made is made once: by constructors, and by fields.
        Matcher made = Pattern.compile("[^\n]*\\bnew\\b[^\n]*").matcher(code);
        while (made.find()) {
            String line = made.group().trim();
            boolean once = line.contains("final") || line.matches("\\w+ = new \\w+\\(\\);");
            Check.due("made once: " + line, once, true);
        }
        int line = 0;
        int began = 0;
        for (String text : code.split("\n")) {
            line++;
            boolean head = text.matches(" {4,8}\\w.*\\) \\{");
            began = head ? line : began;
            boolean end = text.matches(" {4}(    )?\\}");
            Check.due("the method that ends at line " + line + " is short", end && began > 0 && line - began > 60, false);
            began = end ? 0 : began;
        }
    }

    /** Rule 7: a place that comes from the stack or from outside is looked at before it is used. */
    private static void places(String source) {
        String[] unlooked = {"\\[pop\\(\\)\\]", "tape\\.given\\[", "latest\\.(value|given)\\["};
        for (String each : unlooked) {
            Check.due("a place that is not looked at: " + each, Pattern.compile(each).matcher(source).find(), false);
        }
        int from = source.indexOf("class Machine ");
        int to = source.indexOf("class Slopes ");
        Check.due("Machine stands ahead of Slopes", from >= 0 && to > from, true);
        String machine = source.substring(Math.max(from, 0), Math.max(to, Math.max(from, 0)));
        Check.due("Machine asks the tape by valueAt", machine.contains("tape.value["), false);
        Check.due("lay looks at what a step is worked from", source.contains("!holds(a) || !holds(b)"), true);
        Check.due("giveOut looks at what is given", source.contains("!holds(at)"), true);
    }
}
