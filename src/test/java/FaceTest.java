import java.lang.reflect.Constructor;
import java.lang.reflect.Field;
import java.lang.reflect.Method;
import java.lang.reflect.Modifier;
import java.util.Set;
import java.util.TreeSet;

/** The class has the document's face, and no member beside it that another class could see. */
public final class FaceTest {
    private static final Set<String> FACE = Set.of(
            "int animal(int,int,int)", "int worth(int,int)", "int kin(int,int,int)", "boolean bar(int,int,boolean)",
            "int limit(int)", "int even(int)", "int line(int,int)", "int run(int)", "int pairOf(int,int)",
            "int told(int)", "int eggs(int)", "int eggsOf(int)", "int backUp(int)", "int test(int,int)",
            "int ahead(int,int,long,int)", "int after(int,int)");

    public static void main(String[] args) {
        Due due = new Due();
        Class<?> face = PairChoice.class;
        due.is("public and final", face.getModifiers(), Modifier.PUBLIC | Modifier.FINAL);
        Set<String> methods = new TreeSet<>();
        for (Method method : face.getDeclaredMethods()) {
            if (!Modifier.isPrivate(method.getModifiers())) {
                due.is(method + " is public alone", method.getModifiers(), Modifier.PUBLIC);
                methods.add(text(method));
            }
        }
        due.is("methods " + methods, methods.equals(FACE), true);
        due.is("constructors", face.getDeclaredConstructors().length, 1);
        for (Constructor<?> constructor : face.getDeclaredConstructors()) {
            due.is("parameters", constructor.getParameterCount(), 0);
            due.is("public constructor", constructor.getModifiers(), Modifier.PUBLIC);
        }
        for (Field field : face.getDeclaredFields()) {
            due.is(field + " is private", Modifier.isPrivate(field.getModifiers()), true);
        }
        for (Class<?> inside : face.getDeclaredClasses()) {
            due.is(inside + " is static", Modifier.isStatic(inside.getModifiers()), true);
        }
        due.end();
    }

    private static String text(Method method) {
        StringBuilder text = new StringBuilder(method.getReturnType() + " " + method.getName() + "(");
        String before = "";
        for (Class<?> type : method.getParameterTypes()) {
            text.append(before).append(type);
            before = ",";
        }
        return text.append(')').toString();
    }
}
