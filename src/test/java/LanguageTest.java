import java.io.IOException;
import java.lang.reflect.Constructor;
import java.lang.reflect.Field;
import java.lang.reflect.Method;
import java.lang.reflect.Modifier;
import java.nio.file.Files;
import java.nio.file.Path;
import java.util.Arrays;
import java.util.HashSet;
import java.util.Set;
import java.util.TreeSet;
import java.util.regex.Matcher;
import java.util.regex.Pattern;

/** The face of the document, and those rules of ../shared/LANGUAGE.md that can be read off the text and the class. */
public final class LanguageTest {
    private static final Path SOURCE = Path.of("src/main/java/Wagonplay.java");
    private static final Path DOCUMENT = Path.of("../shared/DOC.md");

    private LanguageTest() {
    }

    public static void main(String[] args) throws IOException {
        String source = Files.readString(SOURCE);
        face(Files.readString(DOCUMENT));
        members();
        forbiddenWords(source);
        sizes(source);
        Check.finish("LanguageTest");
    }

    /** Every public method with its very types and exceptions, and none besides. */
    private static void face(String document) {
        Set<String> due = new TreeSet<>();
        String block = document.substring(document.indexOf("public final class"), document.indexOf("\n}\n"));
        for (String line : block.split("\n")) {
            String text = line.trim().replace(";", "");
            if (text.startsWith("public ") && text.contains("(")) {
                due.add(text.replaceAll("(int|char|boolean) \\w+(?=[,)])", "$1"));
            }
        }
        Set<String> got = new TreeSet<>();
        for (Constructor<?> made : Wagonplay.class.getDeclaredConstructors()) {
            got.add("public Wagonplay()".equals(made.toString()) ? made.toString() : "another constructor");
        }
        for (Method method : Wagonplay.class.getDeclaredMethods()) {
            if (!Modifier.isPrivate(method.getModifiers())) {
                got.add(asInDocument(method));
            }
        }
        Check.due("face", got, due);
        Check.due("face is final", Modifier.isFinal(Wagonplay.class.getModifiers()), true);
        Check.due("face, 39 methods and a constructor", due.size(), 40);
    }

    private static String asInDocument(Method method) {
        StringBuilder text = new StringBuilder(Modifier.toString(method.getModifiers()));
        text.append(' ').append(method.getReturnType()).append(' ').append(method.getName()).append('(');
        text.append(names(method.getParameterTypes())).append(')');
        if (method.getExceptionTypes().length > 0) {
            text.append(" throws ").append(names(method.getExceptionTypes()));
        }
        return text.toString();
    }

    private static String names(Class<?>[] kinds) {
        return String.join(", ", Arrays.stream(kinds).map(Class::getSimpleName).toArray(String[]::new));
    }

    private static void members() {
        Set<String> face = new HashSet<>();
        for (Method method : Wagonplay.class.getMethods()) {
            face.add(method.getName());
        }
        for (Method method : Wagonplay.class.getDeclaredMethods()) {
            if (Modifier.isPrivate(method.getModifiers())) {
                Check.due("private " + method.getName(), face.contains(method.getName()), false);
            }
        }
        fields(Wagonplay.class);
        Class<?>[] inside = Wagonplay.class.getDeclaredClasses();
        Check.due("at most 12 classes", inside.length < 12, true);
        for (Class<?> one : inside) {
            Check.due(one + " is static", Modifier.isStatic(one.getModifiers()), true);
            Check.due(one + " is private", Modifier.isPrivate(one.getModifiers()), true);
            fields(one);
            for (Method method : one.getDeclaredMethods()) {
                Check.due(method + " bears no public name", face.contains(method.getName()), false);
            }
        }
    }

    private static void fields(Class<?> of) {
        int own = 0;
        for (Field field : of.getDeclaredFields()) {
            boolean isStatic = Modifier.isStatic(field.getModifiers());
            own += isStatic ? 0 : 1;
            Check.due(field + " static only if final", !isStatic || Modifier.isFinal(field.getModifiers()), true);
            if (of == Wagonplay.class) {
                Check.due(field + " is private", Modifier.isPrivate(field.getModifiers()), true);
            }
        }
        Check.due(of + " has at most 20 fields", own <= 20, true);
        for (Method method : of.getDeclaredMethods()) {
            Check.due(method + " has at most 7 parameters", method.getParameterCount() <= 7, true);
        }
    }

    private static void forbiddenWords(String source) {
        String[] words = {"->", "::", "try", "catch", "finally", "synchronized", "assert", "package", "Exact",
            "java.util.function", "Stream", "System.out", "Random", "nanoTime", "currentTimeMillis", "Thread",
            "NullPointerException", "ArrayIndexOutOfBounds", "Object", "toString", "hashCode", "static {", "record",
            "String.format", "Math.random", "Math.sqrt", "@"};
        for (String word : words) {
            boolean isWord = Character.isLetter(word.charAt(0)) && word.indexOf(' ') < 0;
            Pattern pattern = Pattern.compile(isWord ? "\\b" + Pattern.quote(word) + "\\b" : Pattern.quote(word));
            Check.due("source without " + word, pattern.matcher(source).find(), false);
        }
        Matcher imports = Pattern.compile("(?m)^import (.*);$").matcher(source);
        while (imports.find()) {
            Check.due("import", imports.group(1), "java.util.NoSuchElementException");
        }
        Matcher thrown = Pattern.compile("throw ([^;]*);").matcher(source);
        while (thrown.find()) {
            boolean plain = thrown.group(1).matches("new \\w+Exception\\((\"[^\"]*\")?\\)");
            Check.due("throw " + thrown.group(1), plain, true);
        }
        for (int i = 0; i < source.length(); i++) {
            if (source.charAt(i) > 127) {
                Check.due("sign " + (int) source.charAt(i), false, true);
            }
        }
    }

    private static void sizes(String source) {
        String[] lines = source.split("\n");
        int start = -1;
        String indent = "";
        for (int i = 0; i < lines.length; i++) {
            Matcher head = Pattern.compile("^( {4}| {8})(?!private static final class)[a-zA-Z].*\\{$").matcher(lines[i]);
            if (start < 0 && head.find() && lines[i].contains("(")) {
                start = i;
                indent = head.group(1);
            } else if (start >= 0 && lines[i].equals(indent + "}")) {
                Check.due("short method at line " + (start + 1), i - start <= 60, true);
                start = -1;
            }
            Check.due("short line " + (i + 1), lines[i].length() <= 120, true);
        }
    }
}
