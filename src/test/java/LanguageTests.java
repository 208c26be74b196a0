import java.io.IOException;
import java.lang.reflect.Constructor;
import java.lang.reflect.Field;
import java.lang.reflect.Method;
import java.lang.reflect.Modifier;
import java.nio.file.Files;
import java.nio.file.Path;
import java.util.ArrayList;
import java.util.Arrays;
import java.util.HashSet;
import java.util.List;
import java.util.Set;
import java.util.TreeSet;

/** The public face, and those rules of LANGUAGE.md that can be read off the source or the compiled classes. */
public final class LanguageTests {
    private static final Path SOURCE = Path.of("src/main/java/NotePress.java");
    private static final int LONGEST_METHOD = 60;
    private static final Due due = new Due();

    public static void main(String[] args) throws IOException {
        face();
        nestedClasses();
        words();
        methodLengths();
        due.end();
    }

    private static void face() {
        due.part("face");
        Set<String> want = new TreeSet<>(Arrays.asList("write(int)", "wipe()", "fault()", "lay()", "run(int,int,int)",
            "spoil(int,int)", "spoilSheet(int,int,int)", "undo()", "series(int,int)", "share(int,int,int)",
            "where(int,int,int)", "number(int,int,int,int)", "check(int,int)", "missed(int,int,int)", "note(int,int)",
            "star(int,int)", "starOf(int,int)", "judge(int,int,int)", "pack(int,int,int)", "count(int)"));
        Set<String> got = new TreeSet<>();
        for (Method method : NotePress.class.getDeclaredMethods()) {
            if (!Modifier.isPrivate(method.getModifiers())) {
                got.add(signature(method));
                due.holds(method + " is not a public int method", method.getReturnType() == int.class
                    && method.getModifiers() == Modifier.PUBLIC);
            }
        }
        due.holds("methods are " + got, got.equals(want));
        due.holds("the class is not public and final",
            NotePress.class.getModifiers() == (Modifier.PUBLIC | Modifier.FINAL));
        Constructor<?>[] made = NotePress.class.getDeclaredConstructors();
        due.holds("there is not one public constructor without parameters", made.length == 1
            && made[0].getModifiers() == Modifier.PUBLIC && made[0].getParameterCount() == 0);
        Set<String> constants = new TreeSet<>();
        for (Field field : NotePress.class.getDeclaredFields()) {
            if (!Modifier.isPrivate(field.getModifiers())) {
                constants.add(field.getName());
            }
        }
        due.holds("constants are " + constants,
            constants.equals(new TreeSet<>(Arrays.asList("BAD", "NO", "FULL", "NONE", "STAR"))));
        due.is("BAD", NotePress.BAD, -1);
        due.is("NO", NotePress.NO, -2);
        due.is("FULL", NotePress.FULL, -3);
        due.is("NONE", NotePress.NONE, -4);
        due.is("STAR", NotePress.STAR, 1000);
    }

    private static String signature(Method method) {
        List<String> types = new ArrayList<>();
        for (Class<?> type : method.getParameterTypes()) {
            types.add(type.getName());
        }
        return method.getName() + "(" + String.join(",", types) + ")";
    }

    private static void nestedClasses() {
        due.part("classes inside");
        Set<String> faceNames = new HashSet<>();
        for (Method method : NotePress.class.getMethods()) {
            faceNames.add(method.getName());
        }
        Class<?>[] inside = NotePress.class.getDeclaredClasses();
        due.holds("more than twelve classes", inside.length < 12);
        for (Class<?> nested : inside) {
            due.holds(nested + " is not static", Modifier.isStatic(nested.getModifiers()));
            due.holds(nested + " has over twenty fields", nested.getDeclaredFields().length <= 20);
            for (Method method : nested.getDeclaredMethods()) {
                due.holds(method + " bears a name of the face", !faceNames.contains(method.getName()));
                due.holds(method + " takes over seven parameters", method.getParameterCount() <= 7);
            }
            staticFields(nested);
        }
        staticFields(NotePress.class);
        for (Method method : NotePress.class.getDeclaredMethods()) {
            due.holds(method + " bears a name of the face", !Modifier.isPrivate(method.getModifiers())
                || !faceNames.contains(method.getName()));
        }
    }

    private static void staticFields(Class<?> owner) {
        Set<Class<?>> types = new HashSet<>(Arrays.asList(int.class, long.class, boolean.class, char.class, String.class,
            int[].class, long[].class, char[].class, byte[].class));
        for (Field field : owner.getDeclaredFields()) {
            if (Modifier.isStatic(field.getModifiers())) {
                due.holds(field + " is static and not final", Modifier.isFinal(field.getModifiers()));
                due.holds(field + " is static and of another type", types.contains(field.getType()));
            }
        }
    }

    private static void words() throws IOException {
        due.part("words");
        String code = Files.readString(SOURCE).replaceAll("(?s)/\\*.*?\\*/", " ").replaceAll("//[^\n]*", " ")
            .replaceAll("\"[^\"\n]*\"", "\"\"");
        Set<String> words = new HashSet<>(Arrays.asList(code.split("[^A-Za-z0-9_]+")));
        for (String banned : new String[] {"throw", "throws", "try", "catch", "finally", "synchronized", "assert", "import",
            "package", "System", "Thread", "Object", "hashCode", "toString", "float", "double"}) {
            due.holds("the word " + banned, !words.contains(banned));
        }
        due.holds("a lambda", !code.contains("->"));
        due.holds("a method reference", !code.contains("::"));
        for (char sign : code.toCharArray()) {
            due.holds("a sign that is not ASCII", sign < 127);
        }
    }

    private static void methodLengths() throws IOException {
        due.part("method lengths");
        int start = -1;
        List<String> lines = Files.readAllLines(SOURCE);
        for (int i = 0; i < lines.size(); i++) {
            String line = lines.get(i);
            if (line.matches(" {4}( {4})?(public |private |static |boolean |int |void |Share |Series )*\\w+\\(.*\\) \\{")) {
                start = i;
            }
            if (line.matches(" {4}( {4})?}") && start >= 0) {
                due.holds("the method at line " + (start + 1) + " is long", i - start < LONGEST_METHOD);
                start = -1;
            }
        }
    }
}
