import java.io.IOException;
import java.lang.reflect.Field;
import java.lang.reflect.Modifier;
import java.nio.file.Files;
import java.nio.file.Path;
import java.util.ArrayList;
import java.util.Arrays;
import java.util.List;
import java.util.Set;
import java.util.regex.Matcher;
import java.util.regex.Pattern;

/** What can be seen of LANGUAGE.md's rules in the text of the class; rule 1 is the FaceTest's. */
final class LanguageTest {
    private static final Path SOURCE = Path.of("src/main/java/GroveMerge.java");
    private static final Set<String> IMPORTS = Set.of("java.util.ArrayList", "java.util.List", "java.util.Arrays",
            "java.util.Iterator", "java.util.NoSuchElementException");
    private static final Set<String> THROWN = Set.of("IllegalStateException", "IllegalArgumentException",
            "IndexOutOfBoundsException", "ArithmeticException", "UnsupportedOperationException", "NoSuchElementException",
            "RuntimeException");
    private static final String[] REFUSED = {"->", "::", "finally", "synchronized", "assert", "getMessage", "hashCode",
        "toString", "Exact(", "static {", "Thread", "Random", "System.in", "System.out", "System.nano", "System.current",
        "System.get", "System.exit", "java.io", "java.time", "double", "float", "interface", "try "};
    private static final Pattern HEAD = Pattern.compile("^ {4,8}(?:public |private |static |final )*[\\w\\[\\]]+ ?\\w*\\(([^)]*)\\)[^;{]*\\{$");

    private LanguageTest() {
    }

    public static void main(String[] args) throws IOException {
        Check check = new Check("LanguageTest");
        String text = Files.readString(SOURCE).replaceAll("(?s)/\\*.*?\\*/", "");
        checkWords(check, text.replaceAll("\"[^\"]*\"", "\"\""));
        checkThrows(check, text);
        List<String> lines = text.replaceAll("\\n {12,}throws [^{]*", " ").lines().toList();
        checkMethods(check, lines);
        checkMade(check, lines);
        checkFields(check);
        check.end();
    }

    private static void checkWords(Check check, String text) {
        check.same("no package line", text.contains("package "), false);
        for (String word : REFUSED) {
            check.same("without " + word, text.contains(word), false);
        }
        Matcher imported = Pattern.compile("import ([\\w.* ]+);").matcher(text);
        while (imported.find()) {
            check.same("may be imported: " + imported.group(1), IMPORTS.contains(imported.group(1)), true);
        }
    }

    private static void checkThrows(Check check, String text) {
        Matcher thrown = Pattern.compile("throw\\b(.*)").matcher(text);
        Pattern form = Pattern.compile(" new (\\w+)\\((\"[^\"]*\")?\\);");
        while (thrown.find()) {
            Matcher parts = form.matcher(thrown.group(1));
            check.same("thrown as rule 6 says:" + thrown.group(1), parts.matches() && THROWN.contains(parts.group(1)), true);
        }
    }

    /** A method ends where a line closes it at the depth at which its head stands. */
    private static void checkMethods(Check check, List<String> lines) {
        List<String> heads = new ArrayList<>();
        for (int i = 0; i < lines.size(); i++) {
            Matcher head = HEAD.matcher(lines.get(i).stripTrailing());
            if (!head.matches()) {
                continue;
            }
            String name = lines.get(i).strip();
            String close = lines.get(i).substring(0, lines.get(i).indexOf(name)) + "}";
            heads.add(name);
            check.same("lines of " + name, lines.subList(i, lines.size()).indexOf(close) <= 60, true);
            check.same("parameters of " + name, head.group(1).split(",").length <= 7, true);
        }
        check.same("the methods were seen", heads.size() > 60, true);
    }

    /** By rule 12 what a run makes is counted: here constructors and fields make all, but for what is thrown. */
    private static void checkMade(Check check, List<String> lines) {
        String head = "";
        for (String line : lines) {
            if (HEAD.matcher(line.stripTrailing()).matches()) {
                head = line.strip();
            }
            boolean made = line.matches(".*\\bnew\\b.*") && !line.contains("throw new ");
            boolean field = line.matches(" {4,8}(private )?final \\w+(\\[\\])* \\w+ = new .*");
            boolean inConstructor = head.matches("(public )?(GroveMerge|Tree|History)\\(\\) \\{");
            check.same("made once: " + line.strip(), !made || field || inConstructor, true);
        }
    }

    private static void checkFields(Check check) {
        List<Class<?>> all = new ArrayList<>(Arrays.asList(GroveMerge.class.getDeclaredClasses()));
        all.add(GroveMerge.class);
        for (Class<?> one : all) {
            int fields = 0;
            for (Field field : one.getDeclaredFields()) {
                boolean constant = Modifier.isStatic(field.getModifiers());
                fields += constant ? 0 : 1;
                check.same("final, if static: " + field, !constant || Modifier.isFinal(field.getModifiers()), true);
            }
            check.same("some twenty fields: " + one, fields <= 20, true);
        }
    }
}
