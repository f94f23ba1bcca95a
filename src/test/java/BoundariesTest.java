import java.io.IOException;
import java.lang.reflect.InvocationTargetException;
import java.lang.reflect.Method;
import java.nio.charset.StandardCharsets;
import java.nio.file.Files;
import java.nio.file.Path;
import java.util.ArrayList;
import java.util.Comparator;
import java.util.List;

/**
 * Runs every test that holds a boundary case of the document, and sees that BOUNDARIES.md lists them all.
 *
 * <p>With the argument "list" it prints what BOUNDARIES.md has to hold instead.
 */
public final class BoundariesTest {
    private static final int PROMISES = 17;
    private static final Path LIST = Path.of("BOUNDARIES.md");
    private static final Path DOCUMENT = Path.of("..", "shared", "DOC.md");
    private static final List<Class<?>> HOLDERS = List.of(UseBounds.class, TermsBounds.class, AnimalBounds.class,
            RuleBounds.class, ChoiceBounds.class, EggBounds.class, AheadBounds.class);

    private BoundariesTest() {
    }

    public static void main(String[] args) throws IOException {
        String document = read(DOCUMENT).replaceAll("\\s+", " ");
        List<Method> tests = testsInTheOrderOf(document);
        if (args.length == 1 && args[0].equals("list")) {
            System.out.print(listOf(tests));
            return;
        }
        Due due = new Due();
        for (Method test : tests) {
            due.under(sectionOf(test) + ", " + nameOf(test) + ": ");
            runOne(due, test);
        }
        due.under("");
        eachSectionHasOne(due, tests);
        if (!document.isEmpty()) {
            wordsAreTheDocuments(due, tests, document);
            due.is("BOUNDARIES.md lists the tests", read(LIST).equals(listOf(tests)), true);
        }
        System.out.println(tests.size() + " tests of boundary cases");
        due.end();
    }

    private static List<Method> testsInTheOrderOf(String document) {
        List<Method> tests = new ArrayList<>();
        for (Class<?> holder : HOLDERS) {
            for (Method method : holder.getDeclaredMethods()) {
                if (method.isAnnotationPresent(Says.class)) {
                    tests.add(method);
                }
            }
        }
        tests.sort(Comparator.comparingInt((Method test) -> says(test).promise())
                .thenComparingInt(test -> textOf(test, document).indexOf(says(test).words()))
                .thenComparing(Method::getName));
        return tests;
    }

    /** No call may ever throw, so a test that ends by a throw is an answer that is not as due. */
    private static void runOne(Due due, Method test) {
        try {
            test.invoke(null, due);
        } catch (InvocationTargetException e) {
            e.getCause().printStackTrace(System.out);
            due.is("a throw", true, false);
        } catch (IllegalAccessException e) {
            due.is("a test that can't be run", true, false);
        }
    }

    private static void eachSectionHasOne(Due due, List<Method> tests) {
        for (int promise = Says.USE; promise <= PROMISES; promise++) {
            int sought = promise;
            boolean held = tests.stream().anyMatch(test -> says(test).promise() == sought);
            due.is("a test of " + section(promise), held, true);
        }
    }

    /** A sentence that the document says in another way by now has to be read again, and its test with it. */
    private static void wordsAreTheDocuments(Due due, List<Method> tests, String document) {
        for (Method test : tests) {
            boolean found = textOf(test, document).contains(says(test).words());
            due.is("the document's words at " + nameOf(test), found, true);
        }
    }

    private static String listOf(List<Method> tests) {
        StringBuilder list = new StringBuilder();
        list.append("# Which test holds which boundary case\n\n");
        list.append("Written by `BoundariesTest list` (README.md says how); BoundariesTest fails if a test is missing here.\n\n");
        list.append("| Section | The document's words | Test |\n|---|---|---|\n");
        for (Method test : tests) {
            list.append("| ").append(sectionOf(test)).append(" | ").append(says(test).words());
            list.append(" | ").append(nameOf(test)).append(" |\n");
        }
        return list.toString();
    }

    /** What the document says in a test's section, its heading among it. */
    private static String textOf(Method test, String document) {
        int from = document.indexOf("## " + sectionOf(test) + (says(test).promise() > 0 ? ":" : " "));
        int to = document.indexOf(" ## ", Math.max(from, 0));
        if (from < 0) {
            return "";
        }
        return to < 0 ? document.substring(from) : document.substring(from, to);
    }

    private static Says says(Method test) {
        return test.getAnnotation(Says.class);
    }

    private static String sectionOf(Method test) {
        return section(says(test).promise());
    }

    private static String section(int promise) {
        switch (promise) {
            case Says.USE:
                return "What it is";
            case Says.TERMS:
                return "Terms";
            default:
                return "Promise " + promise;
        }
    }

    private static String nameOf(Method test) {
        return test.getDeclaringClass().getSimpleName() + "." + test.getName();
    }

    private static String read(Path path) throws IOException {
        return Files.exists(path) ? Files.readString(path, StandardCharsets.UTF_8) : "";
    }
}
