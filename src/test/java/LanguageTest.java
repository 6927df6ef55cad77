import java.io.IOException;
import java.lang.reflect.Constructor;
import java.lang.reflect.Field;
import java.lang.reflect.Method;
import java.lang.reflect.Modifier;
import java.nio.file.Files;
import java.nio.file.Path;
import java.util.Arrays;
import java.util.List;
import java.util.Set;
import java.util.TreeSet;
import java.util.regex.Matcher;
import java.util.regex.Pattern;

/** Rules of ../shared/LANGUAGE.md that can be told by a look: the face, forbidden words, sizes. */
public final class LanguageTest {
    private static final Path SOURCE = Path.of("src/main/java/TypedRooms.java");
    private static final Set<String> FACE = new TreeSet<>(List.of("BAD", "NO", "FULL", "NONE", "TypedRooms()",
        "write(int)", "wipe()", "fault()", "lay()", "say()", "undo()", "doubt()", "would(int,int,int)", "thing(int,int)",
        "room(int,int)", "way(int,int)", "door(int,int)", "steps(int,int,int)", "count(int)"));
    private static final Pattern LIBRARY = Pattern.compile("(?:Integer|Long|Math)\\.\\w+(?<!Exact)"
        + "|System\\.arraycopy|Arrays\\.(?:copyOf|copyOfRange|fill)|List\\.of");

    public static void main(String[] args) throws IOException {
        String source = Files.readString(SOURCE);
        // Texts and comments may hold any word.
        String code = source.replaceAll("\"[^\"\n]*\"", "\"\"").replaceAll("(?s)/\\*.*?\\*/", "").replaceAll("//[^\n]*", "");
        Check.all(check -> {
            face(check);
            words(check, code);
            library(check, code);
            methods(check, code);
        });
    }

    private static void face(Check check) {
        Set<String> face = new TreeSet<>();
        Set<String> hidden = new TreeSet<>();
        for (Field field : TypedRooms.class.getDeclaredFields()) {
            (Modifier.isPrivate(field.getModifiers()) ? hidden : face).add(field.getName());
        }
        for (Constructor<?> made : TypedRooms.class.getDeclaredConstructors()) {
            face.add("TypedRooms" + parameters(made.getParameterTypes()));
        }
        for (Method method : TypedRooms.class.getDeclaredMethods()) {
            boolean isHidden = Modifier.isPrivate(method.getModifiers());
            (isHidden ? hidden : face).add(method.getName() + parameters(method.getParameterTypes()));
            check.due(method + " is hidden behind a name of the face", isHidden && isNameOfFace(method.getName()) ? 1 : 0, 0);
        }
        check.due("the face " + face + " is the document's", face.equals(FACE) ? 1 : 0, 1);
        check.due("modifiers of the class", TypedRooms.class.getModifiers(), Modifier.PUBLIC | Modifier.FINAL);
        for (Class<?> inside : TypedRooms.class.getDeclaredClasses()) {
            check.due(inside + " is static", Modifier.isStatic(inside.getModifiers()) ? 1 : 0, 1);
            long fields = Arrays.stream(inside.getDeclaredFields()).filter(field -> !Modifier.isStatic(field.getModifiers())).count();
            check.due(inside + " has few fields", fields <= 20 ? 1 : 0, 1);
            for (Field field : inside.getDeclaredFields()) {
                boolean isFree = Modifier.isStatic(field.getModifiers()) && !Modifier.isFinal(field.getModifiers());
                check.due(field + " is static and not final", isFree ? 1 : 0, 0);
            }
        }
        check.due("few classes", TypedRooms.class.getDeclaredClasses().length <= 11 ? 1 : 0, 1);
    }

    private static String parameters(Class<?>[] types) {
        return "(" + String.join(",", Arrays.stream(types).map(Class::getSimpleName).toList()) + ")";
    }

    private static boolean isNameOfFace(String name) {
        return FACE.stream().anyMatch(member -> member.startsWith(name + "("));
    }

    private static void words(Check check, String code) {
        String word = "\\b(?:throws?|try|catch|synchronized|assert|package|protected|boolean equals|int hashCode|String toString)\\b";
        String reference = "::";
        String lambda = "(?m)^(?!\\s*(?:case|default)\\b).*->";
        String imported = "\\bimport (?!java\\.util\\.(?:ArrayList|List|Iterator|Arrays);)";
        String qualified = "(?m)^(?!import\\b).*\\bjavax?\\.";
        for (String rule : new String[] {word, reference, lambda, imported, qualified}) {
            Matcher found = Pattern.compile(rule).matcher(code);
            check.due(found.find() ? "\"" + found.group().strip() + "\" in the program" : rule, found.reset().find() ? 1 : 0, 0);
        }
    }

    private static void library(Check check, String code) {
        Matcher call = Pattern.compile("\\b(?:Integer|Long|Math|System|Arrays|List|Character|String|Objects)\\.\\w+").matcher(code);
        while (call.find()) {
            check.due(call.group() + " is one of few", LIBRARY.matcher(call.group()).matches() ? 1 : 0, 1);
        }
    }

    /** A method's lines end with a brace as deep as its head. */
    private static void methods(Check check, String code) {
        Matcher head = Pattern.compile("(?m)^( {4}| {8})(?!if|for|switch)\\w[\\w\\[\\] ]*\\(([^()]*)\\) \\{$").matcher(code);
        int found = 0;
        while (head.find()) {
            found++;
            int end = code.indexOf("\n" + head.group(1) + "}", head.end());
            int lines = (int) code.substring(head.start(), end).lines().count() + 1;
            check.due(head.group().strip() + " is short", lines <= 60 ? 1 : 0, 1);
            check.due(head.group().strip() + " takes few", head.group(2).split(",").length <= 7 ? 1 : 0, 1);
        }
        // Those of the face at least; else the pattern does not see how the program is written.
        check.due("methods were found", found >= 14 ? 1 : 0, 1);
    }
}
