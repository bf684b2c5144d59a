import java.io.IOException;
import java.lang.reflect.InvocationTargetException;
import java.lang.reflect.Method;
import java.nio.file.Files;
import java.nio.file.Path;
import java.util.ArrayList;
import java.util.Arrays;
import java.util.Comparator;
import java.util.List;

/** Runs the tests of a class that are marked with a sentence, and sees that no sentence goes without one. */
final class Sentences {
    private static final Path DOCUMENT = Path.of("../shared/DOC.md");

    private static String now = "";
    private static int asked = 0;
    private static int wrong = 0;

    private Sentences() {
    }

    static void complain(String what) {
        wrong++;
        System.out.println(now + ": " + what);
    }

    static void due(String what, Object got, Object want) {
        asked++;
        if (!want.equals(got)) {
            complain(what + " answered " + got + ", due is " + want);
        }
    }

    /** Runs all marked tests of the class; under these headings each word must belong to one of them. */
    static void run(Class<?> tests, String... headings) throws IOException {
        List<Method> marked = markedMethods(tests);
        for (Method test : marked) {
            runOne(test);
        }
        now = tests.getSimpleName();
        if (Files.exists(DOCUMENT)) {
            lookForGaps(Files.readString(DOCUMENT), marked, List.of(headings));
        } else {
            System.out.println("no " + DOCUMENT + ": whether each sentence has a test was not looked at");
        }
        System.out.println(marked.size() + " tests, " + asked + " answers asked for, " + wrong + " not as due");
        if (wrong != 0 || marked.isEmpty()) {
            System.exit(1);
        }
    }

    private static List<Method> markedMethods(Class<?> tests) {
        List<Method> marked = new ArrayList<>();
        for (Method method : tests.getDeclaredMethods()) {
            if (method.isAnnotationPresent(Sentence.class)) {
                marked.add(method);
            }
        }
        marked.sort(Comparator.comparing(Method::getName));
        return marked;
    }

    private static void runOne(Method test) {
        Sentence sentence = test.getAnnotation(Sentence.class);
        now = test.getName() + " [" + sentence.of() + ", \"" + sentence.says() + "\"]";
        int before = asked;
        try {
            test.setAccessible(true);
            test.invoke(null);
        } catch (InvocationTargetException thrown) {
            complain("threw " + thrown.getCause());
        } catch (ReflectiveOperationException unusable) {
            complain("can't be run: " + unusable);
        }
        if (asked == before) {
            complain("asks nothing");
        }
    }

    private static void lookForGaps(String document, List<Method> marked, List<String> headings) {
        for (Method test : marked) {
            Sentence sentence = test.getAnnotation(Sentence.class);
            if (!textUnder(document, sentence.of()).contains(sentence.says())) {
                complain("the document does not say under " + sentence.of() + ": " + sentence.says());
            }
        }
        for (String heading : headings) {
            String text = textUnder(document, heading);
            boolean[] covered = new boolean[text.length()];
            for (Method test : marked) {
                Sentence sentence = test.getAnnotation(Sentence.class);
                if (sentence.of().equals(heading)) {
                    cover(covered, text, sentence.says());
                }
            }
            complainOfGaps(heading, text, covered);
        }
    }

    /** Without the line breaks, and without the method's head, which FaceTest looks at. */
    private static String textUnder(String document, String heading) {
        int start = document.indexOf("\n## " + heading + "\n");
        if (start < 0) {
            complain("the document has no heading " + heading);
            return "";
        }
        int from = document.indexOf('\n', start + 1);
        int next = document.indexOf("\n## ", from);
        String text = document.substring(from, next < 0 ? document.length() : next);
        return text.replaceAll("\\s+", " ").trim().replaceFirst("^`[^`]*`: ", "");
    }

    private static void cover(boolean[] covered, String text, String words) {
        for (int at = text.indexOf(words); at >= 0; at = text.indexOf(words, at + 1)) {
            Arrays.fill(covered, at, at + words.length(), true);
        }
    }

    private static void complainOfGaps(String heading, String text, boolean[] covered) {
        StringBuilder gaps = new StringBuilder();
        for (int i = 0; i < text.length(); i++) {
            if (!covered[i] && Character.isLetterOrDigit(text.charAt(i))) {
                gaps.append(text.charAt(i));
            } else if (gaps.length() > 0 && gaps.charAt(gaps.length() - 1) != ' ') {
                gaps.append(' ');
            }
        }
        if (gaps.length() > 0) {
            complain("no test for these words under " + heading + ": " + gaps);
        }
    }
}
