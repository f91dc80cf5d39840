import java.lang.reflect.Constructor;
import java.lang.reflect.Field;
import java.lang.reflect.Method;
import java.lang.reflect.Modifier;
import java.nio.file.Files;
import java.nio.file.Path;
import java.util.ArrayList;
import java.util.List;
import java.util.Set;
import java.util.TreeSet;
import java.util.regex.Matcher;
import java.util.regex.Pattern;

/** What of LANGUAGE.md, and of the document's face, can be told from the source's text and the compiled classes. */
public final class LanguageTest {
    private static final Path SOURCE = Path.of("src/main/java/Theatrehouse.java");
    private static final Path DOCUMENT = Path.of("../shared/DOC.md");
    private static final Set<String> IMPORTS = Set.of("java.util.NoSuchElementException", "java.util.ArrayList",
        "java.util.List", "java.util.Arrays", "java.util.Iterator");
    private static final Set<String> THROWN = Set.of("IllegalStateException", "IllegalArgumentException",
        "IndexOutOfBoundsException", "ArithmeticException", "UnsupportedOperationException",
        "NoSuchElementException", "RuntimeException");
    private static final String[] NOT_ALLOWED = {"->", "::", "\\bfinally\\b", "\\bsynchronized\\b", "\\bassert\\b",
        "\\w+Exact\\b", "\\bstatic\\s*\\{", "\\bpackage\\b", "\\bequals\\b", "\\bhashCode\\b", "\\btoString\\b",
        "System\\.(?!arraycopy\\()", "\\bThread\\b", "\\bRandom\\b", "\\bjava\\.(?!util\\.)", "\\bgetMessage\\b",
        "\\bObject\\b", "\\bvar\\b", "\\bnative\\b", "\\bvolatile\\b", "\\[\\]\\[\\]\\[\\]"};

    public static void main(String[] args) throws java.io.IOException {
        String source = Files.readString(SOURCE);
        text(withoutTexts(source));
        lengths(source);
        List<Class<?>> classes = new ArrayList<>();
        gather(Theatrehouse.class, classes);
        face(Files.readString(DOCUMENT));
        members(classes);
        Check.finish("LanguageTest");
    }

    private static void gather(Class<?> one, List<Class<?>> all) {
        all.add(one);
        for (Class<?> inner : one.getDeclaredClasses()) {
            gather(inner, all);
        }
    }

    private static String withoutTexts(String source) {
        return source.replaceAll("(?s)/\\*.*?\\*/", "").replaceAll("//[^\\n]*", "")
            .replaceAll("\"[^\"\\n]*\"", "\"\"").replaceAll("'.'", "' '");
    }

    private static void text(String code) {
        for (String pattern : NOT_ALLOWED) {
            Check.due(false, "the source has " + pattern, () -> Pattern.compile(pattern).matcher(code).find());
        }
        Matcher imports = Pattern.compile("import\\s+([\\w.]+)").matcher(code);
        while (imports.find()) {
            String name = imports.group(1);
            Check.due(true, "import of " + name, () -> IMPORTS.contains(name));
        }
        Matcher thrown = Pattern.compile("\\bthrow\\b(?!\\s+new\\s+(\\w+)\\((\"\")?\\);)|\\bthrow\\s+new\\s+(\\w+)")
            .matcher(code);
        while (thrown.find()) {
            String name = thrown.group(3);
            Check.due(true, "throw of " + name, () -> name != null && THROWN.contains(name));
        }
        Check.due(true, "characters up to 127", () -> code.chars().allMatch(c -> c < 128));
    }

    /** Relies on the file's indentation: a body's last line stands just below its first one. */
    private static void lengths(String source) {
        String[] lines = source.split("\n");
        for (int i = 0; i < lines.length; i++) {
            Matcher head = Pattern.compile("^( +)\\S.*\\) ?(throws [\\w, ]+)?\\{$").matcher(lines[i]);
            if (!head.matches() || lines[i].contains(" new ")) {
                continue;
            }
            int end = i;
            while (end < lines.length && !lines[end].equals(head.group(1) + "}")) {
                end++;
            }
            int length = end - i + 1;
            String name = lines[i].trim();
            Check.due(true, "60 lines at most: " + name, () -> length <= 60);
        }
    }

    private static String names(Class<?>[] types) {
        StringBuilder all = new StringBuilder();
        for (Class<?> type : types) {
            all.append(all.length() == 0 ? "" : ", ").append(type.getSimpleName());
        }
        return all.toString();
    }

    private static void face(String document) {
        Set<String> due = new TreeSet<>();
        Matcher line = Pattern.compile("(?m)^    public (\\w+) (\\w+)\\(([^)]*)\\)( throws [\\w, ]+)?;$")
            .matcher(document);
        while (line.find()) {
            String types = line.group(3).replaceAll("(\\w+) \\w+", "$1");
            due.add(line.group(1) + " " + line.group(2) + "(" + types + ")"
                + (line.group(4) == null ? "" : line.group(4)));
        }
        Set<String> got = new TreeSet<>();
        for (Method m : Theatrehouse.class.getDeclaredMethods()) {
            if (Modifier.isPublic(m.getModifiers())) {
                String thrown = names(m.getExceptionTypes());
                got.add(m.getReturnType().getSimpleName() + " " + m.getName() + "(" + names(m.getParameterTypes())
                    + ")" + (thrown.isEmpty() ? "" : " throws " + thrown));
            }
        }
        Check.due(35, "methods of the document's face", () -> due.size());
        Check.due(due, "the face", () -> got);
        Constructor<?>[] constructors = Theatrehouse.class.getConstructors();
        Check.due(1, "public constructors", () -> constructors.length);
        Check.due(0, "its parameters", () -> constructors[0].getParameterCount());
        Check.due(Modifier.PUBLIC | Modifier.FINAL, "public and final", () -> Theatrehouse.class.getModifiers());
    }

    private static void members(List<Class<?>> classes) {
        Check.due(true, "twelve classes at most", () -> classes.size() <= 12);
        Set<String> publicNames = new TreeSet<>();
        for (Method m : Theatrehouse.class.getMethods()) {
            publicNames.add(m.getName());
        }
        for (Class<?> one : classes) {
            boolean isFace = one == Theatrehouse.class;
            String where = one.getSimpleName() + ".";
            Check.due(true, where + " is static", () -> isFace || Modifier.isStatic(one.getModifiers()));
            int fields = 0;
            for (Field f : one.getDeclaredFields()) {
                int modifiers = f.getModifiers();
                fields += Modifier.isStatic(modifiers) ? 0 : 1;
                Check.due(true, where + f.getName() + " is final, where static",
                    () -> !Modifier.isStatic(modifiers) || Modifier.isFinal(modifiers));
                Check.due(true, where + f.getName() + " is private", () -> !isFace || Modifier.isPrivate(modifiers));
            }
            int count = fields;
            Check.due(true, where + " has twenty fields at most", () -> count <= 20);
            for (Method m : one.getDeclaredMethods()) {
                boolean isPublic = Modifier.isPublic(m.getModifiers());
                Check.due(true, where + m.getName() + " has seven parameters at most",
                    () -> m.getParameterCount() <= 7);
                if (isFace) {
                    Check.due(true, where + m.getName() + " is public or private",
                        () -> isPublic || m.isSynthetic() || Modifier.isPrivate(m.getModifiers()));
                }
                Check.due(false, where + m.getName() + " bears the name of a public one",
                    () -> !isPublic && publicNames.contains(m.getName()));
            }
        }
    }
}
