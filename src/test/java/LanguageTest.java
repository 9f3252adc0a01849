import java.lang.reflect.Executable;
import java.lang.reflect.Field;
import java.lang.reflect.Method;
import java.lang.reflect.Modifier;
import java.nio.file.Files;
import java.nio.file.Path;
import java.util.ArrayList;
import java.util.Arrays;
import java.util.List;
import java.util.Set;
import java.util.TreeSet;
import java.util.regex.Matcher;
import java.util.regex.Pattern;

/** Looks for what LANGUAGE.md forbids and what can be seen without understanding the program. */
public final class LanguageTest {
    private static final Path SOURCE = Path.of("src/main/java/StudioAirtime.java");
    private static final Path DOCUMENT = Path.of("../shared/DOC.md");
    private static final Set<String> LIBRARY = Set.of("Math.max", "Math.min", "Math.abs", "System.arraycopy");
    private static final Set<String> EXCEPTIONS = Set.of("IllegalStateException", "IllegalArgumentException",
            "IndexOutOfBoundsException");

    private static int wrong;

    public static void main(String[] args) throws Exception {
        String code = Files.readString(SOURCE)
                .replaceAll("(?s)/\\*.*?\\*/", " ")
                .replaceAll("//[^\n]*", " ")
                .replaceAll("\"[^\"\n]*\"", "TEXT")
                .replaceAll("'[^'\n]+'", "SIGN");
        words(code);
        library(code);
        face();
        sizes(code);
        System.out.println(wrong == 0 ? "the language is kept to" : wrong + " breaches of LANGUAGE.md");
        System.exit(wrong == 0 ? 0 : 1);
    }

    private static void tell(String what) {
        wrong++;
        System.out.println(what);
    }

    private static void none(String code, String pattern) {
        Matcher matcher = Pattern.compile(pattern).matcher(code);
        while (matcher.find()) {
            tell("not of the language: " + matcher.group());
        }
    }

    private static void words(String code) {
        none(code, "\\b(import|package|try|catch|finally|synchronized|assert|volatile|transient|native|var|yield)\\b");
        none(code, "->|::|@\\w+|static\\s*\\{|\\bprotected\\b|TEXT\\s*\\+|\\+\\s*TEXT");
        none(code, "\\b(String|Object|Double|Float|Character|Boolean)\\s*\\.");
        none(code, "while\\s*\\(\\s*true|for\\s*\\(\\s*;");
    }

    private static void library(String code) {
        Matcher calls = Pattern.compile("\\b[A-Z][a-z]\\w*\\.\\w+").matcher(code);
        while (calls.find()) {
            if (!LIBRARY.contains(calls.group())) {
                tell("not of the library: " + calls.group());
            }
        }
        Matcher throwing = Pattern.compile("throw\\b\\s*(?:new (\\w+)\\(TEXT\\);)?").matcher(code);
        while (throwing.find()) {
            if (throwing.group(1) == null || !EXCEPTIONS.contains(throwing.group(1))) {
                tell("not a throw of the language: " + throwing.group());
            }
        }
    }

    private static String signature(Executable method) {
        List<String> types = new ArrayList<>();
        for (Class<?> type : method.getParameterTypes()) {
            types.add(type.getSimpleName());
        }
        return method.getName() + types;
    }

    private static void face() throws Exception {
        Set<String> want = new TreeSet<>();
        Matcher lines = Pattern.compile("(?m)^    public (\\w+) (\\w+)\\(([^)]*)\\)").matcher(Files.readString(DOCUMENT));
        while (lines.find()) {
            String types = lines.group(3).replaceAll("(\\w+) \\w+", "$1");
            want.add(lines.group(1) + " " + lines.group(2) + "[" + types + "]");
        }
        Set<String> got = new TreeSet<>();
        Set<String> names = new TreeSet<>();
        for (Method method : StudioAirtime.class.getDeclaredMethods()) {
            if (Modifier.isPublic(method.getModifiers())) {
                got.add(method.getReturnType().getSimpleName() + " " + signature(method));
                names.add(method.getName());
            }
        }
        if (want.isEmpty() || !got.equals(want)) {
            tell("the face is " + got + ", the document's is " + want);
        }
        for (Method method : StudioAirtime.class.getDeclaredMethods()) {
            boolean isPublic = Modifier.isPublic(method.getModifiers());
            if (!isPublic && (!Modifier.isPrivate(method.getModifiers()) || names.contains(method.getName()))) {
                tell("not to be a member: " + method);
            }
        }
        for (Class<?> inside : StudioAirtime.class.getDeclaredClasses()) {
            int modifiers = inside.getModifiers();
            if (Modifier.isPublic(modifiers) || Modifier.isProtected(modifiers) || !Modifier.isStatic(modifiers)) {
                tell("not to be a class inside: " + inside);
            }
        }
        for (Field field : StudioAirtime.class.getDeclaredFields()) {
            if (!Modifier.isPrivate(field.getModifiers()) && !field.getName().equals("NONE")) {
                tell("not to be seen: " + field);
            }
        }
    }

    private static void sizes(String code) {
        List<Class<?>> classes = new ArrayList<>(Arrays.asList(StudioAirtime.class.getDeclaredClasses()));
        classes.add(StudioAirtime.class);
        if (classes.size() > 12) {
            tell("too many classes: " + classes.size());
        }
        for (Class<?> type : classes) {
            long fields = Arrays.stream(type.getDeclaredFields())
                    .filter(f -> !Modifier.isStatic(f.getModifiers())).count();
            if (fields > 20) {
                tell("too many fields: " + type);
            }
            for (Method method : type.getDeclaredMethods()) {
                if (method.getParameterCount() > 7) {
                    tell("too many parameters: " + method);
                }
            }
        }
        int begin = 0;
        String[] lines = code.split("\n");
        for (int i = 0; i < lines.length; i++) {
            if (lines[i].matches("    (    )?\\S.*\\{\\s*") && !lines[i].contains(" class ")) {
                begin = i;
            }
            if (lines[i].matches("    (    )?\\}\\s*") && i - begin > 60) {
                tell("a long method ends at line " + (i + 1));
            }
        }
    }
}
