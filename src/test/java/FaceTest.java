import java.io.IOException;
import java.lang.reflect.Constructor;
import java.lang.reflect.Field;
import java.lang.reflect.Method;
import java.lang.reflect.Modifier;
import java.nio.file.Files;
import java.nio.file.Path;
import java.util.HashSet;
import java.util.List;
import java.util.Set;
import java.util.TreeSet;
import java.util.regex.Pattern;

/** The class's face is the document's and no more, and its text keeps to the words of LANGUAGE.md. */
public final class FaceTest {
    private static final Set<String> FACE = Set.of(
            "int UNKNOWN", "int OUTSIDE", "int STATE", "int ROOM",
            "WordTrees()",
            "int entry()", "int letter(int,int)", "int drop(int)", "int cost(int,int,int)", "int clear()",
            "int find(int)", "int word(int)", "long sum(int)", "int within(int,int)", "int abbreviation(int,int)",
            "int plain(int)");
    private static final List<String> LEFT_OUT = List.of(
            "throw", "throws", "try", "catch", "finally", "synchronized", "assert", "package", "->", "::",
            "System\\.out", "System\\.err", "Random", "Thread");

    private static int wrong = 0;

    private static void complain(String what) {
        wrong++;
        System.out.println(what);
    }

    private static String parameters(Class<?>[] types) {
        StringBuilder text = new StringBuilder("(");
        for (int i = 0; i < types.length; i++) {
            text.append(i == 0 ? "" : ",").append(types[i].getSimpleName());
        }
        return text.append(")").toString();
    }

    private static void see(Set<String> seen, Set<String> publicNames, int modifiers, String name, String text) {
        if (Modifier.isPublic(modifiers)) {
            seen.add(text);
            publicNames.add(name);
        } else if (!Modifier.isPrivate(modifiers)) {
            complain("neither public nor private: " + text);
        }
    }

    private static void face() {
        Class<?> type = WordTrees.class;
        Set<String> seen = new TreeSet<>();
        Set<String> publicNames = new HashSet<>();
        for (Field field : type.getDeclaredFields()) {
            see(seen, publicNames, field.getModifiers(), field.getName(), field.getType() + " " + field.getName());
            if (Modifier.isStatic(field.getModifiers()) && !Modifier.isFinal(field.getModifiers())) {
                complain("static and not final: " + field);
            }
        }
        for (Constructor<?> made : type.getDeclaredConstructors()) {
            String text = type.getSimpleName() + parameters(made.getParameterTypes());
            see(seen, publicNames, made.getModifiers(), text, text);
        }
        for (Method method : type.getDeclaredMethods()) {
            String text = method.getReturnType() + " " + method.getName() + parameters(method.getParameterTypes());
            see(seen, publicNames, method.getModifiers(), method.getName(), text);
        }
        if (!seen.equals(new TreeSet<>(FACE))) {
            complain("the face is " + seen + ", due is " + new TreeSet<>(FACE));
        }
        if (!Modifier.isPublic(type.getModifiers()) || !Modifier.isFinal(type.getModifiers())) {
            complain("the class is not public and final");
        }
        for (Method method : type.getDeclaredMethods()) {
            if (Modifier.isPrivate(method.getModifiers()) && publicNames.contains(method.getName())) {
                complain("a private method with a public one's name: " + method);
            }
        }
        for (Class<?> inside : type.getDeclaredClasses()) {
            if (!Modifier.isStatic(inside.getModifiers()) || Modifier.isPublic(inside.getModifiers())) {
                complain("not static or public: " + inside);
            }
        }
    }

    private static String withoutComments(String text) {
        return text.replaceAll("(?s)/\\*.*?\\*/", "").replaceAll("//[^\n]*", "");
    }

    private static void words() throws IOException {
        String text = withoutComments(Files.readString(Path.of("src/main/java/WordTrees.java")));
        for (String word : LEFT_OUT) {
            String edges = Character.isLetter(word.charAt(0)) ? "\\b" : "";
            if (Pattern.compile(edges + word + edges).matcher(text).find()) {
                complain("LANGUAGE.md leaves out: " + word);
            }
        }
    }

    public static void main(String[] args) throws IOException {
        face();
        words();
        System.out.println(wrong == 0 ? "the face is as due" : wrong + " faults of the face");
        if (wrong != 0) {
            System.exit(1);
        }
    }
}
