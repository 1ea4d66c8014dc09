import java.io.IOException;
import java.lang.reflect.Constructor;
import java.lang.reflect.Executable;
import java.lang.reflect.Field;
import java.lang.reflect.Method;
import java.lang.reflect.Modifier;
import java.nio.file.Files;
import java.nio.file.Path;
import java.util.ArrayList;
import java.util.HashSet;
import java.util.List;
import java.util.Set;
import java.util.regex.Matcher;
import java.util.regex.Pattern;
import java.util.stream.Collectors;
import java.util.stream.Stream;

/** The rules of ../shared/LANGUAGE.md, as far as the compiled class or the words of its source show whether they are kept. */
final class LanguageTest {
    private static final Set<String> EXCEPTIONS = Set.of("IllegalStateException", "IllegalArgumentException",
            "IndexOutOfBoundsException", "ArithmeticException", "UnsupportedOperationException", "NoSuchElementException",
            "RuntimeException");
    private static final Set<Class<?>> LIBRARY = Set.of(String.class, StringBuilder.class, Integer.class, ArrayList.class,
            List.class, void.class);
    private static final List<Class<?>> CLASSES = new ArrayList<>();

    private LanguageTest() {
    }

    public static void main(String[] args) throws IOException {
        CLASSES.add(WiredBeans.class);
        CLASSES.addAll(List.of(WiredBeans.class.getDeclaredClasses()));
        String source = Files.readString(Path.of("src", "main", "java", "WiredBeans.java"));
        String words = withoutTexts(source);
        oneFile();
        classesInside();
        noNameTwice();
        types();
        staticFields();
        words(words);
        exceptions(words);
        sizes();
        lengths(words);
        Check.end();
    }

    /** Without comments and written texts, so that only what is done is looked at; lines stay. */
    private static String withoutTexts(String source) {
        Matcher found = Pattern.compile("/\\*.*?\\*/|//[^\n]*|\"(\\\\.|[^\"\\\\])*\"|'(\\\\.|[^'\\\\])'", Pattern.DOTALL)
                .matcher(source);
        return found.replaceAll(match -> "0" + "\n".repeat((int) match.group().chars().filter(c -> c == '\n').count()));
    }

    /** "The program is one file, src/main/java/WiredBeans.java". */
    private static void oneFile() throws IOException {
        try (Stream<Path> files = Files.walk(Path.of("src", "main"))) {
            Check.is("the files of the program", files.filter(Files::isRegularFile).map(file -> file.getFileName().toString())
                    .collect(Collectors.toList()), List.of("WiredBeans.java"));
        }
    }

    /** Rules 1 and 2: private or package-visible, and static; an enum's fields are numbers, truths or texts. */
    private static void classesInside() {
        for (Class<?> inside : CLASSES.subList(1, CLASSES.size())) {
            Check.is(inside + " is static", Modifier.isStatic(inside.getModifiers()), true);
            Check.is(inside + " is seen", Modifier.isPublic(inside.getModifiers()) || Modifier.isProtected(inside.getModifiers()),
                    false);
            Check.is("classes in " + inside, inside.getDeclaredClasses().length, 0);
            for (Field field : inside.getDeclaredFields()) {
                boolean isOfConstant = inside.isEnum() && !Modifier.isStatic(field.getModifiers());
                Check.is(inside + "." + field.getName(), !isOfConstant || List.of(int.class, long.class, boolean.class,
                        String.class).contains(field.getType()), true);
            }
        }
    }

    /** Rule 1: "No private method bears the name of a public one"; here no method of a class inside does, either. */
    private static void noNameTwice() {
        Set<String> face = new HashSet<>();
        for (Method method : WiredBeans.class.getDeclaredMethods()) {
            if (Modifier.isPublic(method.getModifiers())) {
                Check.is(method.getName() + " is the first of its name", face.add(method.getName()), true);
            }
        }
        for (Class<?> each : CLASSES) {
            for (Method method : each.getDeclaredMethods()) {
                boolean isOfFace = each == WiredBeans.class && Modifier.isPublic(method.getModifiers());
                Check.is(each + "." + method.getName() + " bears a name of the face",
                        !isOfFace && face.contains(method.getName()), false);
            }
        }
    }

    /** Rule 3, of fields, parameters and answers. */
    private static void types() {
        for (Class<?> each : CLASSES) {
            for (Field field : each.getDeclaredFields()) {
                Check.is("type of " + each + "." + field.getName(), isLeft(field.getType()) || field.isSynthetic(), true);
            }
            for (Executable called : executables(each)) {
                for (Class<?> type : called.getParameterTypes()) {
                    Check.is("a type of " + called, isLeft(type), true);
                }
            }
        }
    }

    private static boolean isLeft(Class<?> type) {
        if (type.isArray()) {
            Class<?> element = type.getComponentType();
            return isOne(element) && element != String.class || element.isArray() && element.getComponentType().isPrimitive();
        }
        return isOne(type) || LIBRARY.contains(type);
    }

    private static boolean isOne(Class<?> type) {
        return type.isPrimitive() || CLASSES.contains(type);
    }

    private static List<Executable> executables(Class<?> each) {
        List<Executable> all = new ArrayList<>();
        for (Method method : each.getDeclaredMethods()) {
            if (!method.isSynthetic() && !(each.isEnum() && List.of("values", "valueOf").contains(method.getName()))) {
                all.add(method);
            }
        }
        for (Constructor<?> constructor : each.getDeclaredConstructors()) {
            if (!constructor.isSynthetic() && !each.isEnum()) {
                all.add(constructor);
            }
        }
        return all;
    }

    /** Rule 5: "Static fields are final". */
    private static void staticFields() {
        for (Class<?> each : CLASSES) {
            for (Field field : each.getDeclaredFields()) {
                int modifiers = field.getModifiers();
                Check.is(each + "." + field.getName(), !Modifier.isStatic(modifiers) || Modifier.isFinal(modifiers), true);
            }
        }
    }

    /** Rules 2, 4, 5, 6, 10 and 13: words that must not stand there. */
    private static void words(String words) {
        Matcher imported = Pattern.compile("\\b(?:import|package)\\s+([^;]*);").matcher(words);
        while (imported.find()) {
            Check.is("imported " + imported.group(1), List.of("java.util.ArrayList", "java.util.List", "java.util.Arrays",
                    "java.util.Iterator").contains(imported.group(1)), true);
        }
        for (String wrong : new String[] {"->", "::", "\\bfinally\\b", "\\bsynchronized\\b", "\\bassert\\b", "\\bstatic\\s*\\{",
            "\\btry\\s*\\(", "\\bSystem\\.(?!arraycopy\\b)", "\\b(hashCode|getMessage|printStackTrace|getClass)\\b",
            "\\b(Thread|Random|File|Files|Runtime|Class|Object|Map|Set|Optional|Stream)\\b", "\\bvar\\b", "Exact\\b",
            "\\b(Double|Float|Character|Boolean|Short|Byte|Number)\\b", "\\bjava\\.(?!util\\.)", "\\bextends\\s+\\w*Exception",
            "@SuppressWarnings"}) {
            Matcher found = Pattern.compile(wrong).matcher(words);
            Check.is("what must not stand there", found.find() ? found.group() : "", "");
        }
    }

    /** Rule 6: which exceptions are thrown, and that no method holds both a throw and a try. */
    private static void exceptions(String words) {
        Matcher thrown = Pattern.compile("\\bthrow\\b\\s*(?:new\\s+(\\w+)\\s*\\(0?\\)\\s*;)?").matcher(words);
        int count = 0;
        while (thrown.find()) {
            count++;
            Check.is("thrown " + thrown.group(), thrown.group(1) != null && EXCEPTIONS.contains(thrown.group(1)), true);
        }
        Check.is("some are thrown", count > 0, true);
        Matcher caught = Pattern.compile("\\bcatch\\s*\\(\\s*(\\w+)").matcher(words);
        while (caught.find()) {
            Check.is("caught " + caught.group(), EXCEPTIONS.contains(caught.group(1)), true);
        }
        for (String method : methods(words)) {
            boolean hasBoth = method.matches("(?s).*\\btry\\b.*") && method.matches("(?s).*\\bthrow\\b.*");
            Check.is("try and throw in " + method.lines().findFirst().orElse(""), hasBoth, false);
        }
    }

    /** Rule 11: "at most seven parameters" (but for the face), "some twelve classes", "some twenty fields". */
    private static void sizes() {
        Check.is("classes", CLASSES.size() <= 12, true);
        for (Class<?> each : CLASSES) {
            int fields = 0;
            for (Field field : each.getDeclaredFields()) {
                fields += Modifier.isStatic(field.getModifiers()) || field.isSynthetic() ? 0 : 1;
            }
            Check.is("fields of " + each + ": " + fields, fields <= 22, true);
            for (Executable called : executables(each)) {
                boolean isOfFace = each == WiredBeans.class && Modifier.isPublic(called.getModifiers());
                Check.is("parameters of " + called, isOfFace || called.getParameterCount() <= 7, true);
            }
        }
    }

    /** Rule 11: "Methods stay short (some sixty lines)". */
    private static void lengths(String words) {
        List<String> methods = methods(words);
        Check.is("methods were found", methods.size() > 100, true);
        for (String method : methods) {
            Check.is("a short method: " + method.lines().findFirst().orElse(""), method.lines().count() <= 60, true);
        }
    }

    /** Each method and constructor, from the line on that names it to its last brace. */
    private static List<String> methods(String words) {
        List<String> all = new ArrayList<>();
        Matcher start = Pattern.compile("(?m)^ {4,8}(?! |return|throw|new|else)[\\w<>\\[\\] ]*\\w+\\([^;{}]*\\)[^;{}]*\\{")
                .matcher(words);
        while (start.find()) {
            int open = 1;
            int end = start.end();
            while (open > 0 && end < words.length()) {
                open += words.charAt(end) == '{' ? 1 : words.charAt(end) == '}' ? -1 : 0;
                end++;
            }
            all.add(words.substring(start.start(), end));
        }
        return all;
    }
}
