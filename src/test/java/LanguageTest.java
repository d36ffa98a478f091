import java.io.IOException;
import java.lang.reflect.Constructor;
import java.lang.reflect.Field;
import java.lang.reflect.Method;
import java.lang.reflect.Modifier;
import java.nio.file.Files;
import java.nio.file.Path;
import java.util.TreeSet;

/** The rules of LANGUAGE.md that a test can look at: the face, and words that may not stand. */
public final class LanguageTest {
    private static final String FACE = "about back clue end fault feed land left likeliest miss "
            + "odds place sea search seen share split state stream tale tracks wind";

    public static void main(String[] args) throws IOException {
        face();
        sizes();
        String source = Files.readString(Path.of("src/main/java/DriftDesk.java"));
        wordsOfSource(source);
        lengthsOfMethods(source.split("\n"));
        Check.endOf("LanguageTest");
    }

    private static void face() {
        TreeSet<String> names = new TreeSet<>();
        TreeSet<String> hidden = new TreeSet<>();
        for (Method method : DriftDesk.class.getDeclaredMethods()) {
            boolean open = Modifier.isPublic(method.getModifiers());
            (open ? names : hidden).add(method.getName());
            Check.due("public or private: " + method,
                    open || Modifier.isPrivate(method.getModifiers()), true);
        }
        Check.due("the face is " + names, String.join(" ", names).equals(FACE), true);
        for (Class<?> inside : DriftDesk.class.getDeclaredClasses()) {
            Check.due("static: " + inside, Modifier.isStatic(inside.getModifiers()), true);
            for (Method method : inside.getDeclaredMethods()) {
                hidden.add(method.getName());
            }
        }
        hidden.retainAll(names);
        Check.due("names of the face used again: " + hidden, hidden.size(), 0);
        for (Field field : DriftDesk.class.getDeclaredFields()) {
            Check.due("NONE alone is open: " + field, field.getName().equals("NONE")
                    || Modifier.isPrivate(field.getModifiers()), true);
        }
        for (Constructor<?> made : DriftDesk.class.getDeclaredConstructors()) {
            Check.due("one way to make it: " + made, made.getParameterCount(), 0);
        }
    }

    // Rule 11, and rule 5: static fields are final.
    private static void sizes() {
        Class<?>[] inside = DriftDesk.class.getDeclaredClasses();
        Check.due("classes: " + (inside.length + 1), inside.length + 1 <= 12, true);
        sizesOf(DriftDesk.class);
        for (Class<?> each : inside) {
            sizesOf(each);
        }
    }

    private static void sizesOf(Class<?> each) {
        int fields = 0;
        for (Field field : each.getDeclaredFields()) {
            boolean fixed = Modifier.isStatic(field.getModifiers());
            fields += fixed ? 0 : 1;
            Check.due("final: " + field, !fixed || Modifier.isFinal(field.getModifiers()), true);
        }
        Check.due("fields of " + each + ": " + fields, fields <= 20, true);
        for (Method method : each.getDeclaredMethods()) {
            Check.due("parameters of " + method, method.getParameterCount() <= 7, true);
        }
        for (Constructor<?> made : each.getDeclaredConstructors()) {
            Check.due("parameters of " + made, made.getParameterCount() <= 7, true);
        }
    }

    private static void lengthsOfMethods(String[] lines) {
        int start = -1;
        String close = "";
        for (int i = 0; i < lines.length; i++) {
            String indent = lines[i].replaceFirst("\\S.*$", "");
            boolean opens = lines[i].endsWith(") {") && !lines[i].contains("}")
                    && !lines[i].matches("\\s*(if|for|while|switch|do|return|boolean \\w+ =|&&).*");
            if (start < 0 && opens && indent.length() <= 8) {
                start = i;
                close = indent + "}";
            } else if (start >= 0 && lines[i].equals(close)) {
                Check.due("lines of [" + lines[start] + "]", i - start < 60, true);
                start = -1;
            }
        }
        Check.due("every method ends", start, -1);
    }

    private static void wordsOfSource(String source) {
        String code = source.replaceAll("(?s)/\\*.*?\\*/", " ").replaceAll("//[^\n]*", " ");
        String[] never = {"throw", "try", "catch", "synchronized", "assert", "double", "float",
            "System", "Random", "Thread", "hashCode", "toString", "package", "static\\s*\\{",
            "->", "::", "@", "var", "Object", "HashMap", "\\w+Exact"};
        for (String word : never) {
            String pattern = Character.isLetter(word.charAt(0)) ? "\\b" + word + "\\b" : word;
            if (word.startsWith("static") || word.startsWith("\\")) {
                pattern = word;
            }
            int found = code.split(pattern, -1).length - 1;
            Check.due("[" + word + "] in the source", found, 0);
        }
        for (String line : source.split("\n")) {
            Check.due("a line of " + line.length() + " signs", line.length() <= 100, true);
        }
    }
}
