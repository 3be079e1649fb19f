import java.io.IOException;
import java.lang.reflect.Constructor;
import java.lang.reflect.Field;
import java.lang.reflect.Method;
import java.lang.reflect.Modifier;
import java.nio.file.Files;
import java.nio.file.Path;
import java.util.Arrays;
import java.util.Set;
import java.util.TreeSet;
import java.util.regex.Pattern;

/** The public face of the document, and the rules of LANGUAGE.md that can be seen from outside. */
public final class FaceTest {
    private static final Check check = new Check();
    private static final String[] FACE = {
        "int will()", "int feed(int,int,int,int,int)", "int scheme(int,int,int)", "int fault()", "int where()",
        "int clause(int,int,int)", "int clauses(int,int)", "int person(int,int,boolean)", "int means(int,int,int)",
        "boolean dies(int)", "int fact(int,int,int)", "int may(int,int,int)", "int bars(int,int,int)",
        "int order(int,int,int)", "int list(int,int)", "int next(int,int)", "int room(int)", "int trustee()",
        "boolean away(int,boolean)", "int fill(int)", "int leave(int)", "int roomOf(int,int)", "int had(int,int)",
        "int land(int,int,int)", "boolean dole(int)", "int pass(int)", "int owed(int)", "int got(int)",
        "int count(int)", "int trouble()"};

    public static void main(String[] args) throws IOException {
        methods();
        others();
        nested();
        words();
        check.end("FaceTest");
    }

    private static void methods() {
        Set<String> due = new TreeSet<>(Arrays.asList(FACE));
        Set<String> open = new TreeSet<>();
        Set<String> names = new TreeSet<>();
        for (Method method : AlmsHouse.class.getDeclaredMethods()) {
            if (!Modifier.isPrivate(method.getModifiers())) {
                open.add(signature(method));
                names.add(method.getName());
                check.due("public, not static: " + method, method.getModifiers(), Modifier.PUBLIC);
            }
        }
        check.due("methods " + open, open.equals(due), true);
        for (Method method : AlmsHouse.class.getDeclaredMethods()) {
            boolean hidden = Modifier.isPrivate(method.getModifiers());
            check.due("a name of the face: " + method, hidden && names.contains(method.getName()), false);
        }
        for (Class<?> inside : AlmsHouse.class.getDeclaredClasses()) {
            for (Method method : inside.getDeclaredMethods()) {
                check.due("a name of the face: " + method, names.contains(method.getName()), false);
                check.due("at most seven parameters: " + method, method.getParameterCount() <= 7, true);
            }
        }
    }

    private static String signature(Method method) {
        StringBuilder text = new StringBuilder();
        text.append(method.getReturnType().getName()).append(' ').append(method.getName()).append('(');
        for (int i = 0; i < method.getParameterCount(); i++) {
            text.append(i == 0 ? "" : ",").append(method.getParameterTypes()[i].getName());
        }
        return text.append(')').toString();
    }

    private static void others() {
        check.due("public and final", AlmsHouse.class.getModifiers(), Modifier.PUBLIC | Modifier.FINAL);
        Constructor<?>[] constructors = AlmsHouse.class.getDeclaredConstructors();
        check.due("constructors", constructors.length, 1);
        check.due("public constructor", constructors[0].getModifiers(), Modifier.PUBLIC);
        check.due("its parameters", constructors[0].getParameterCount(), 0);
        for (Field field : AlmsHouse.class.getDeclaredFields()) {
            boolean open = !Modifier.isPrivate(field.getModifiers());
            check.due("field " + field, open, field.getName().equals("NONE"));
            if (open) {
                int constant = Modifier.PUBLIC | Modifier.STATIC | Modifier.FINAL;
                check.due("a public constant: " + field, field.getModifiers(), constant);
                check.due("of int: " + field, field.getType() == int.class, true);
            }
            staticIsFinal(field);
        }
    }

    private static void nested() {
        check.due("some twelve classes", AlmsHouse.class.getDeclaredClasses().length <= 12, true);
        for (Class<?> inside : AlmsHouse.class.getDeclaredClasses()) {
            int modifiers = inside.getModifiers();
            check.due("static: " + inside, Modifier.isStatic(modifiers), true);
            check.due("not public: " + inside, Modifier.isPublic(modifiers) || Modifier.isProtected(modifiers), false);
            for (Field field : inside.getDeclaredFields()) {
                staticIsFinal(field);
            }
        }
    }

    private static void staticIsFinal(Field field) {
        int modifiers = field.getModifiers();
        check.due("final: " + field, Modifier.isStatic(modifiers) && !Modifier.isFinal(modifiers), false);
    }

    private static void words() throws IOException {
        String source = Files.readString(Path.of("src/main/java/AlmsHouse.java"));
        String code = source.replaceAll("(?s)/\\*.*?\\*/", "").replaceAll("//[^\n]*", "");
        String[] barred = {"\\b(throw|throws|try|catch|synchronized|assert|volatile|native)\\b", "->", "::",
            "\\b(Random|System\\.(?!arraycopy)|Thread|Object|double|float)\\b", "Exact\\("};
        for (String word : barred) {
            check.due("the source has " + word, Pattern.compile(word).matcher(code).find(), false);
        }
    }
}
