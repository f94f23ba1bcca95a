import java.io.IOException;
import java.lang.reflect.Constructor;
import java.lang.reflect.Field;
import java.lang.reflect.Method;
import java.lang.reflect.Modifier;
import java.nio.file.Files;
import java.nio.file.Path;
import java.util.Set;
import java.util.TreeSet;
import java.util.regex.Matcher;
import java.util.regex.Pattern;

/** The class has the document's face, and no member beside it that another class could see; none holds static state. */
public final class FaceTest {
    private static final Set<String> FACE = Set.of(
            "int animal(int,int,int)", "int worth(int,int)", "int kin(int,int,int)", "boolean bar(int,int,boolean)",
            "int limit(int)", "int even(int)", "int line(int,int)", "int run(int)", "int pairOf(int,int)",
            "int told(int)", "int eggs(int)", "int eggsOf(int)", "int backUp(int)", "int test(int,int)",
            "int ahead(int,int,long,int)", "int after(int,int)");

    private static final Path DOCUMENT = Path.of("..", "shared", "DOC.md");

    public static void main(String[] args) throws IOException {
        Due due = new Due();
        if (Files.exists(DOCUMENT)) {
            due.is("the document's face", documentsFace().equals(FACE), true);
        }
        Class<?> face = PairChoice.class;
        due.is("public and final", face.getModifiers(), Modifier.PUBLIC | Modifier.FINAL);
        Set<String> methods = new TreeSet<>();
        for (Method method : face.getDeclaredMethods()) {
            if (!Modifier.isPrivate(method.getModifiers())) {
                due.is(method + " is public alone", method.getModifiers(), Modifier.PUBLIC);
                methods.add(text(method));
            }
        }
        due.is("methods " + methods, methods.equals(FACE), true);
        due.is("constructors", face.getDeclaredConstructors().length, 1);
        for (Constructor<?> constructor : face.getDeclaredConstructors()) {
            due.is("parameters", constructor.getParameterCount(), 0);
            due.is("public constructor", constructor.getModifiers(), Modifier.PUBLIC);
        }
        for (Field field : face.getDeclaredFields()) {
            due.is(field + " is private", Modifier.isPrivate(field.getModifiers()), true);
        }
        for (Class<?> inside : face.getDeclaredClasses()) {
            due.is(inside + " is static", Modifier.isStatic(inside.getModifiers()), true);
            noStaticState(due, inside);
        }
        noStaticState(due, face);
        due.end();
    }

    /** The methods of the document's code, without the names of their parameters. */
    private static Set<String> documentsFace() throws IOException {
        Set<String> methods = new TreeSet<>();
        Matcher line = Pattern.compile("public (\\w+ \\w+)\\(([^)]*)\\);").matcher(Files.readString(DOCUMENT));
        while (line.find()) {
            methods.add(line.group(1) + "(" + line.group(2).replaceAll(" \\w+(, )?", ",").replaceAll(",$", "") + ")");
        }
        return methods;
    }

    private static void noStaticState(Due due, Class<?> holder) {
        for (Field field : holder.getDeclaredFields()) {
            int modifiers = field.getModifiers();
            due.is(field + " is final", !Modifier.isStatic(modifiers) || Modifier.isFinal(modifiers), true);
        }
    }

    private static String text(Method method) {
        StringBuilder text = new StringBuilder(method.getReturnType() + " " + method.getName() + "(");
        String before = "";
        for (Class<?> type : method.getParameterTypes()) {
            text.append(before).append(type);
            before = ",";
        }
        return text.append(')').toString();
    }
}
