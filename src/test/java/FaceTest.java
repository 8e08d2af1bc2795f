import java.io.IOException;
import java.lang.reflect.Constructor;
import java.lang.reflect.Field;
import java.lang.reflect.Method;
import java.lang.reflect.Modifier;
import java.nio.file.Files;
import java.nio.file.Path;
import java.util.Set;
import java.util.TreeSet;

/** The face is the document's and no more, and the source keeps clear of what LANGUAGE.md rules out. */
public final class FaceTest {
    private static final Set<String> FACE = Set.of(
            "int brew(int,int,int,int)", "int pass(int)", "int print(int,int)", "char label(int,int)",
            "int bottle(int,int)", "int measure(int,int)", "int blend(int,int,int)", "int ofBrew(int,int)",
            "int classAnew(int)", "int inTank(int)", "int paid()", "int owed()", "int pay(int)");
    private static final String[] RULED_OUT = {"->", "::", "catch", "finally", "synchronized", "assert", "import ",
        "package ", "Exact", "Object", "System.", "protected ", "hashCode", "equals", "toString(int", "[] []"};

    private static final Check check = new Check();

    public static void main(String[] args) throws IOException {
        members();
        nested();
        source();
        check.end();
    }

    private static void members() {
        Set<String> found = new TreeSet<>();
        Set<String> names = new TreeSet<>();
        for (Method method : Cellarscheduler.class.getDeclaredMethods()) {
            if (!Modifier.isPrivate(method.getModifiers()) && !method.isSynthetic()) {
                found.add(signature(method));
                names.add(method.getName());
            }
        }
        check.due("methods", new TreeSet<>(FACE).toString(), found.toString());
        privateNames(Cellarscheduler.class, names);
        for (Field field : Cellarscheduler.class.getDeclaredFields()) {
            boolean isHidden = Modifier.isPrivate(field.getModifiers()) || field.isSynthetic();
            check.due("field " + field.getName(), field.getName().equals("NONE") ? 0 : 1, isHidden ? 1 : 0);
        }
        Constructor<?>[] made = Cellarscheduler.class.getDeclaredConstructors();
        check.due("constructors", "1 public", made.length + " " + Modifier.toString(made[0].getModifiers()));
        check.due("class", "public final", Modifier.toString(Cellarscheduler.class.getModifiers()));
    }

    private static void nested() {
        for (Class<?> inside : Cellarscheduler.class.getDeclaredClasses()) {
            check.due("class " + inside.getSimpleName(), "private static final", Modifier.toString(inside.getModifiers()));
            check.due("fields of " + inside.getSimpleName(), 1, inside.getDeclaredFields().length <= 20 ? 1 : 0);
        }
    }

    private static void privateNames(Class<?> owner, Set<String> names) {
        for (Method method : owner.getDeclaredMethods()) {
            if (Modifier.isPrivate(method.getModifiers())) {
                check.due("private " + method.getName(), 0, names.contains(method.getName()) ? 1 : 0);
            }
        }
    }

    private static String signature(Method method) {
        StringBuilder told = new StringBuilder();
        for (Class<?> type : method.getParameterTypes()) {
            told.append(told.length() == 0 ? "" : ",").append(type.getSimpleName());
        }
        return method.getReturnType().getSimpleName() + " " + method.getName() + "(" + told + ")";
    }

    private static void source() throws IOException {
        String text = Files.readString(Path.of("src/main/java/Cellarscheduler.java"));
        for (String word : RULED_OUT) {
            check.due("the source holds " + word, -1, text.indexOf(word));
        }
    }
}
