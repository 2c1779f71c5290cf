import java.io.IOException;
import java.lang.reflect.Constructor;
import java.lang.reflect.Field;
import java.lang.reflect.Method;
import java.lang.reflect.Modifier;
import java.nio.file.Files;
import java.nio.file.Path;
import java.util.Arrays;
import java.util.List;
import java.util.TreeSet;
import java.util.regex.Pattern;

/** The public face, and the rules of LANGUAGE.md that can be seen from outside. */
public final class LanguageTest {
    private static final String FACE = "back(int) blame(int,int) broken(int,int,int) can(int,int) cancel(int,int) "
            + "cleaning(int) count(int) cue(int,int,int) feed(int,int,int,int,int) hall() look(int,int,boolean) "
            + "make(int) mend(int) place() plate(int) read() show(int,int,int,int,int) showing(int,int) told(int,int) "
            + "train(int,int,int,int) way(int,int,int,int) where(int,int)";

    public static void main(String[] args) throws IOException {
        Check check = new Check();
        face(check);
        noOtherMembers(check);
        classesInside(check);
        words(check);
        check.end();
    }

    private static void face(Check check) {
        TreeSet<String> methods = new TreeSet<>();
        for (Method method : LanternHouse.class.getDeclaredMethods()) {
            if (Modifier.isPublic(method.getModifiers())) {
                String types = Arrays.stream(method.getParameterTypes()).map(Class::getName)
                        .reduce((a, b) -> a + "," + b).orElse("");
                methods.add(method.getName() + "(" + types + ")");
                String due = method.getName().equals("cleaning") ? "boolean" : "int";
                check.due("type of " + method.getName(), method.getReturnType().getName().equals(due), true);
                check.due("static " + method.getName(), Modifier.isStatic(method.getModifiers()), false);
            }
        }
        check.due("methods " + methods, String.join(" ", methods).equals(FACE), true);
        check.due("public and final", LanternHouse.class.getModifiers(), Modifier.PUBLIC | Modifier.FINAL);
        Constructor<?>[] constructors = LanternHouse.class.getDeclaredConstructors();
        check.due("constructors", constructors.length, 1);
        check.due("its parameters", constructors[0].getParameterCount(), 0);
        check.due("it is public", Modifier.isPublic(constructors[0].getModifiers()), true);
    }

    private static void noOtherMembers(Check check) {
        for (Field field : LanternHouse.class.getDeclaredFields()) {
            boolean isNone = field.getName().equals("NONE");
            int modifiers = field.getModifiers();
            check.due("private " + field.getName(), Modifier.isPrivate(modifiers), !isNone);
            check.due("public " + field.getName(), Modifier.isPublic(modifiers), isNone);
        }
        for (Method method : LanternHouse.class.getDeclaredMethods()) {
            int modifiers = method.getModifiers();
            check.due("public or private " + method.getName(),
                    Modifier.isPublic(modifiers) || Modifier.isPrivate(modifiers), true);
        }
    }

    private static void classesInside(Check check) {
        Class<?>[] inside = LanternHouse.class.getDeclaredClasses();
        check.due("twelve classes at most", inside.length < 12, true);
        List<String> face = Arrays.asList(FACE.replaceAll("\\([^ ]*", "").split(" "));
        for (Class<?> one : inside) {
            String name = one.getSimpleName();
            check.due("static " + name, Modifier.isStatic(one.getModifiers()), true);
            int fields = 0;
            for (Field field : one.getDeclaredFields()) {
                boolean isStatic = Modifier.isStatic(field.getModifiers());
                fields += isStatic ? 0 : 1;
                check.due("final if static " + field.getName(), !isStatic || Modifier.isFinal(field.getModifiers()), true);
            }
            check.due("twenty fields at most in " + name, fields <= 20, true);
            for (Method method : one.getDeclaredMethods()) {
                check.due("name of " + name + "." + method.getName(), face.contains(method.getName()), false);
                check.due("seven parameters at most: " + method.getName(), method.getParameterCount() <= 7, true);
            }
        }
    }

    private static void words(Check check) throws IOException {
        String source = Files.readString(Path.of("src/main/java/LanternHouse.java"));
        String code = source.replaceAll("(?s)/\\*.*?\\*/", "").replaceAll("//[^\n]*", "");
        for (String word : "throw throws try catch synchronized assert package abstract goto".split(" ")) {
            check.due("no " + word, Pattern.compile("\\b" + word + "\\b").matcher(code).find(), false);
        }
        for (String sign : new String[] {"->", "::", "Exact", "System.", "Thread", "/ 0"}) {
            check.due("no " + sign, code.contains(sign), false);
        }
        check.due("one import", code.split("\\bimport\\b").length, 2);
        check.due("it is Arrays", code.contains("import java.util.Arrays;"), true);
        // what is made by a call is counted in the room of the run: all rows are made by constructors
        check.due("no row is made by a method", Pattern.compile("(?m)^ {12,}.*\\bnew \\w").matcher(code).find(), false);
    }
}
