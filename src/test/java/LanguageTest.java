import java.io.IOException;
import java.lang.reflect.Constructor;
import java.lang.reflect.Field;
import java.lang.reflect.Method;
import java.lang.reflect.Modifier;
import java.nio.file.Files;
import java.nio.file.Path;
import java.util.TreeSet;

/** The rules of LANGUAGE.md that a test can look at: the face, and words that may not stand. */
public final class LanguageTest {
    private static final String FACE = "about back clue end fault feed land left likeliest miss "
            + "odds place sea search seen share split state stream tale tracks wind";

    public static void main(String[] args) throws IOException {
        face();
        wordsOfSource(Files.readString(Path.of("src/main/java/DriftDesk.java")));
        Check.endOf("LanguageTest");
    }

    private static void face() {
        TreeSet<String> names = new TreeSet<>();
        TreeSet<String> hidden = new TreeSet<>();
        for (Method method : DriftDesk.class.getDeclaredMethods()) {
            boolean open = Modifier.isPublic(method.getModifiers());
            (open ? names : hidden).add(method.getName());
            Check.due("public or private: " + method,
                    open || Modifier.isPrivate(method.getModifiers()), true);
        }
        Check.due("the face is " + names, String.join(" ", names).equals(FACE), true);
        for (Class<?> inside : DriftDesk.class.getDeclaredClasses()) {
            Check.due("static: " + inside, Modifier.isStatic(inside.getModifiers()), true);
            for (Method method : inside.getDeclaredMethods()) {
                hidden.add(method.getName());
            }
        }
        hidden.retainAll(names);
        Check.due("names of the face used again: " + hidden, hidden.size(), 0);
        for (Field field : DriftDesk.class.getDeclaredFields()) {
            Check.due("NONE alone is open: " + field, field.getName().equals("NONE")
                    || Modifier.isPrivate(field.getModifiers()), true);
        }
        for (Constructor<?> made : DriftDesk.class.getDeclaredConstructors()) {
            Check.due("one way to make it: " + made, made.getParameterCount(), 0);
        }
    }

    private static void wordsOfSource(String source) {
        String code = source.replaceAll("(?s)/\\*.*?\\*/", " ").replaceAll("//[^\n]*", " ");
        String[] never = {"throw", "try", "catch", "synchronized", "assert", "double", "float",
            "System", "Random", "Thread", "hashCode", "toString", "package", "static\\s*\\{",
            "->", "::", "@", "var", "Object", "HashMap", "\\w+Exact"};
        for (String word : never) {
            String pattern = Character.isLetter(word.charAt(0)) ? "\\b" + word + "\\b" : word;
            if (word.startsWith("static") || word.startsWith("\\")) {
                pattern = word;
            }
            int found = code.split(pattern, -1).length - 1;
            Check.due("[" + word + "] in the source", found, 0);
        }
        for (String line : source.split("\n")) {
            Check.due("a line of " + line.length() + " signs", line.length() <= 100, true);
        }
    }
}
