import java.io.IOException;
import java.lang.reflect.Constructor;
import java.lang.reflect.Method;
import java.lang.reflect.Modifier;
import java.nio.file.Files;
import java.nio.file.Path;
import java.util.List;
import java.util.Set;
import java.util.TreeSet;
import java.util.regex.Matcher;
import java.util.regex.Pattern;

/** The class's face as the document has it, and the rules of LANGUAGE.md that can be seen in its text. */
public final class FormTest {
    private static final Due DUE = new Due("form");
    private static final Path SOURCE = Path.of("src/main/java/Reelrow.java");
    private static final String THROWN = "new (IllegalState|IllegalArgument|IndexOutOfBounds)Exception\\(";
    private static final Path DOC = Path.of("../shared/DOC.md");

    public static void main(String[] args) throws IOException {
        String source = Files.readString(SOURCE);
        faceIsTheDocuments();
        nothingElseIsSeen();
        noForbiddenWord(source);
        onlyTheLibraryThatIsLeft(source);
        fewAndShort(source);
        DUE.done();
    }

    private static String signature(Method method) {
        StringBuilder text = new StringBuilder();
        text.append(method.getReturnType().getSimpleName()).append(' ').append(method.getName()).append('(');
        for (int i = 0; i < method.getParameterCount(); i++) {
            text.append(i == 0 ? "" : ", ").append(method.getParameterTypes()[i].getSimpleName());
            text.append(' ').append(method.getParameters()[i].getName());
        }
        text.append(')');
        Class<?>[] thrown = method.getExceptionTypes();
        for (int i = 0; i < thrown.length; i++) {
            text.append(i == 0 ? " throws " : ", ").append(thrown[i].getSimpleName());
        }
        return text.toString();
    }

    private static void faceIsTheDocuments() throws IOException {
        Set<String> due = new TreeSet<>();
        Matcher matcher = Pattern.compile("(?m)^    public ([a-zA-Z]+ [a-zA-Z]+\\(.*);$").matcher(Files.readString(DOC));
        while (matcher.find()) {
            due.add(matcher.group(1));
        }
        Set<String> got = new TreeSet<>();
        for (Method method : Reelrow.class.getDeclaredMethods()) {
            if (Modifier.isPublic(method.getModifiers())) {
                got.add(signature(method));
            }
        }
        DUE.is("how many methods", due.size(), 49);
        DUE.is("the methods", got.toString(), due.toString());
    }

    private static void nothingElseIsSeen() {
        DUE.is("final and public", Modifier.toString(Reelrow.class.getModifiers()), "public final");
        Set<String> seen = new TreeSet<>();
        for (Method method : Reelrow.class.getDeclaredMethods()) {
            if (Modifier.isPublic(method.getModifiers())) {
                seen.add(method.getName());
            }
        }
        for (Method method : Reelrow.class.getDeclaredMethods()) {
            int form = method.getModifiers();
            if (!method.isSynthetic() && !Modifier.isPublic(form)) {
                DUE.is(method.getName() + " is private", Modifier.isPrivate(form), true);
                DUE.is(method.getName() + " has a name of its own", seen.contains(method.getName()), false);
            }
        }
        for (var field : Reelrow.class.getDeclaredFields()) {
            DUE.is(field.getName() + " is private", Modifier.isPrivate(field.getModifiers()), true);
        }
        Constructor<?>[] constructors = Reelrow.class.getDeclaredConstructors();
        DUE.is("constructors", constructors.length, 1);
        for (Class<?> inside : Reelrow.class.getDeclaredClasses()) {
            DUE.is(inside + " is static", Modifier.isStatic(inside.getModifiers()), true);
            DUE.is(inside + " is not public", Modifier.isPublic(inside.getModifiers()), false);
        }
    }

    private static String withoutTexts(String source) {
        return source.replaceAll("//.*", "").replaceAll("(?s)/\\*.*?\\*/", "").replaceAll("\"[^\"\n]*\"", "\"\"");
    }

    private static void noForbiddenWord(String source) {
        String bare = withoutTexts(source);
        for (String word : List.of("package", "finally", "synchronized", "assert", "protected", "native", "hashCode",
                "\\w+Exact", "Object", "var", "Thread", "Random", "currentTimeMillis", "nanoTime", "NullPointerException",
                "ArrayIndexOutOfBoundsException", "ClassCastException", "Throwable", "Exception", "Error")) {
            DUE.is("the word " + word, Pattern.compile("\\b" + word + "\\b").matcher(bare).find(), false);
        }
        DUE.is("a lambda or a method reference", bare.contains("->") || bare.contains("::"), false);
        DUE.is("texts joined by +", Pattern.compile("\"\"\\s*\\+|\\+\\s*\"\"").matcher(bare).find(), false);
        boolean isPlain = true;
        for (char sign : source.toCharArray()) {
            isPlain &= sign < 128;
        }
        DUE.is("signs below 128", isPlain, true);
        DUE.is("a throw of another kind", Pattern.compile("throw (?!" + THROWN + ")").matcher(bare).find(), false);
    }

    private static void onlyTheLibraryThatIsLeft(String source) {
        Set<String> allowed = new TreeSet<>(List.of("Reelrow", "String", "StringBuilder", "Integer", "Long", "Math",
                "System", "Arrays", "ArrayList", "List", "Iterator", "Iterable", "Comparable", "IndexOutOfBoundsException",
                "IllegalArgumentException", "IllegalStateException"));
        for (Class<?> inside : Reelrow.class.getDeclaredClasses()) {
            allowed.add(inside.getSimpleName());
        }
        Matcher matcher = Pattern.compile("\\b[A-Z][a-z]\\w*\\b").matcher(withoutTexts(source));
        while (matcher.find()) {
            if (!allowed.contains(matcher.group())) {
                DUE.is("a class of the library", matcher.group(), "none");
            }
        }
    }

    private static void fewAndShort(String source) {
        DUE.is("few classes", Reelrow.class.getDeclaredClasses().length <= 11, true);
        int start = 0;
        String[] lines = source.split("\n");
        for (int i = 0; i < lines.length; i++) {
            if (lines[i].matches(" {4}(    )?(public|private|[a-z]+) .*[({,]?") && !lines[i].endsWith(";")) {
                start = i;
            }
            boolean isEnd = lines[i].equals("    }") || lines[i].equals("        }");
            DUE.is("line " + (i + 1) + " ends a short method", !isEnd || i - start <= 60, true);
        }
    }
}
