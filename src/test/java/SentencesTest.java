import java.io.IOException;
import java.lang.reflect.InvocationTargetException;
import java.lang.reflect.Method;
import java.nio.charset.StandardCharsets;
import java.nio.file.Files;
import java.nio.file.Path;
import java.util.ArrayList;
import java.util.Arrays;
import java.util.Comparator;
import java.util.List;

/**
 * Runs every test that holds a sentence of the document, sees that no words of it are without one, and that
 * SENTENCES.md lists them all.
 *
 * <p>With the argument "list" it prints what SENTENCES.md has to hold instead.
 */
public final class SentencesTest {
    private static final int PROMISES = 17;
    private static final Path LIST = Path.of("SENTENCES.md");
    private static final Path DOCUMENT = Path.of("..", "shared", "DOC.md");
    private static final List<Class<?>> HOLDERS = List.of(OrdinaryCases.class, UseBounds.class, TermsBounds.class,
            AnimalBounds.class, RuleBounds.class, ChoiceBounds.class, EggBounds.class, AheadBounds.class);

    private SentencesTest() {
    }

    public static void main(String[] args) throws IOException {
        String document = read(DOCUMENT).replaceAll("```[a-z]*", "").replaceAll("\\s+", " ");
        List<Method> tests = testsInTheOrderOf(document);
        if (args.length == 1 && args[0].equals("list")) {
            System.out.print(listOf(tests));
            return;
        }
        Due due = new Due();
        for (Method test : tests) {
            due.under(sectionOf(test) + ", " + nameOf(test) + ": ");
            runOne(due, test);
        }
        due.under("");
        eachSectionHasOne(due, tests);
        if (!document.isEmpty()) {
            wordsAreTheDocuments(due, tests, document);
            noWordsAreWithoutATest(due, tests, document);
            due.is("SENTENCES.md lists the tests", read(LIST).equals(listOf(tests)), true);
        }
        System.out.println(tests.size() + " tests of the document's sentences");
        due.end();
    }

    private static List<Method> testsInTheOrderOf(String document) {
        List<Method> tests = new ArrayList<>();
        for (Class<?> holder : HOLDERS) {
            for (Method method : holder.getDeclaredMethods()) {
                if (method.isAnnotationPresent(Says.class)) {
                    tests.add(method);
                }
            }
        }
        tests.sort(Comparator.comparingInt((Method test) -> says(test).promise())
                .thenComparingInt(test -> textOf(says(test).promise(), document).indexOf(says(test).words()))
                .thenComparing(Method::getName));
        return tests;
    }

    /** No call may ever throw, so a test that ends by a throw is an answer that is not as due. */
    private static void runOne(Due due, Method test) {
        try {
            test.invoke(null, due);
        } catch (InvocationTargetException e) {
            e.getCause().printStackTrace(System.out);
            due.is("a throw", true, false);
        } catch (IllegalAccessException e) {
            due.is("a test that can't be run", true, false);
        }
    }

    private static void eachSectionHasOne(Due due, List<Method> tests) {
        for (int promise = Says.USE; promise <= PROMISES; promise++) {
            int sought = promise;
            boolean held = tests.stream().anyMatch(test -> says(test).promise() == sought);
            due.is("a test of " + section(promise), held, true);
        }
    }

    /** A sentence that the document says in another way by now has to be read again, and its test with it. */
    private static void wordsAreTheDocuments(Due due, List<Method> tests, String document) {
        for (Method test : tests) {
            boolean found = textOf(says(test).promise(), document).contains(says(test).words());
            due.is("the document's words at " + nameOf(test), found, true);
        }
    }

    /** A test holds the first place where its words stand; the face's lines are held by FaceTest. */
    private static void noWordsAreWithoutATest(Due due, List<Method> tests, String document) {
        for (int promise = Says.USE; promise <= PROMISES; promise++) {
            String text = textOf(promise, document);
            boolean[] held = new boolean[text.length()];
            hold(held, 0, bodyStart(promise, text));
            for (Method test : tests) {
                int from = says(test).promise() == promise ? text.indexOf(says(test).words()) : -1;
                if (from >= 0) {
                    hold(held, from, from + says(test).words().length());
                }
            }
            due.is("a test for the words \"" + notHeld(text, held) + "\" of " + section(promise),
                    notHeld(text, held).isEmpty(), true);
        }
    }

    private static int bodyStart(int promise, String text) {
        return promise > 0 ? text.indexOf("`: ") + 3 : ("## " + section(promise)).length();
    }

    private static void hold(boolean[] held, int from, int to) {
        Arrays.fill(held, from, Math.min(to, held.length), true);
    }

    private static String notHeld(String text, boolean[] held) {
        StringBuilder words = new StringBuilder();
        for (int i = 0; i < text.length(); i++) {
            if (!held[i] && ",;:. ".indexOf(text.charAt(i)) < 0) {
                words.append(text.charAt(i));
            }
        }
        return words.toString();
    }

    private static String listOf(List<Method> tests) {
        StringBuilder list = new StringBuilder();
        list.append("# Which test holds which sentence\n\n");
        list.append("Written by `SentencesTest list` (README.md says how); SentencesTest fails if a test is missing here.\n\n");
        list.append("| Section | The document's words | Test |\n|---|---|---|\n");
        for (Method test : tests) {
            list.append("| ").append(sectionOf(test)).append(" | ").append(says(test).words());
            list.append(" | ").append(nameOf(test)).append(" |\n");
        }
        return list.toString();
    }

    /** What the document says in a section, its heading among it. */
    private static String textOf(int promise, String document) {
        int from = document.indexOf("## " + section(promise) + (promise > 0 ? ":" : " "));
        int to = document.indexOf(" ## ", Math.max(from, 0));
        if (from < 0) {
            return "";
        }
        return to < 0 ? document.substring(from) : document.substring(from, to);
    }

    private static Says says(Method test) {
        return test.getAnnotation(Says.class);
    }

    private static String sectionOf(Method test) {
        return section(says(test).promise());
    }

    private static String section(int promise) {
        switch (promise) {
            case Says.USE:
                return "What it is";
            case Says.TERMS:
                return "Terms";
            default:
                return "Promise " + promise;
        }
    }

    private static String nameOf(Method test) {
        return test.getDeclaringClass().getSimpleName() + "." + test.getName();
    }

    private static String read(Path path) throws IOException {
        return Files.exists(path) ? Files.readString(path, StandardCharsets.UTF_8) : "";
    }
}
