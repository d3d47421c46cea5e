import java.io.IOException;
import java.lang.reflect.Method;
import java.nio.file.Files;
import java.nio.file.Path;
import java.util.ArrayList;
import java.util.List;
import java.util.Map;
import java.util.Set;
import java.util.TreeMap;
import java.util.TreeSet;
import java.util.regex.Matcher;
import java.util.regex.Pattern;

/**
 * What of LANGUAGE.md can be seen from the program's text. Where a rule allows more than the program
 * needs (library, exceptions, recursion, objects made by a call) the test holds it to what it needs.
 */
public final class LanguageTest {
    private static final Path PROGRAM = Path.of("src", "main", "java", "SnapshotFiles.java");
    private static final String OUTER = "SnapshotFiles";
    private static final int MOST_LINES = 60;
    private static final int MOST_PARAMETERS = 7;
    private static final int MOST_DEEP = 8;

    private static final String[] WORDS_RULED_OUT = {
        "package", "import", "finally", "synchronized", "assert", "throw", "throws", "try", "catch",
        "protected", "native", "volatile", "transient", "instanceof", "double", "float", "Object"};

    /** A constructor or a method: its class, its name, and its text from the first line to the last. */
    private record Part(String type, String name, String head, String body) {
        boolean isConstructor() {
            return type.equals(name);
        }

        String told() {
            return type + "." + name;
        }
    }

    private static final List<Part> PARTS = new ArrayList<>();
    private static final Set<String> TYPES = new TreeSet<>();
    private static final Map<String, String> FIELDS = new TreeMap<>();
    private static final Pattern CALL =
            Pattern.compile("(?:\\b([A-Za-z]+)(?:\\[[a-z0-9]+\\])?\\.)?\\b([A-Za-z]+)\\(");

    public static void main(String[] args) throws IOException {
        String text = Files.readString(PROGRAM);
        String code = withoutCommentsAndTexts(text);
        readParts(code);
        allIsRead();
        wordsRuledOut(code);
        namesOfTheLibrary(code);
        staticState(code);
        shortMethods();
        objectsAreMadeInConstructors();
        loopsHaveAnEnd();
        noNameOfTheFaceAgain();
        callsAreNotDeep();
        charactersOfTheText(text);
        Check.end();
    }

    private static String withoutCommentsAndTexts(String text) {
        String noComments = text.replaceAll("(?s)/\\*.*?\\*/", " ").replaceAll("//[^\n]*", " ");
        return noComments.replaceAll("\"[^\"\n]*\"", "\"\"");
    }

    /** Classes stand at the margin or four blanks in; their methods four blanks further. */
    private static void readParts(String code) {
        Pattern head = Pattern.compile("^ {4,8}(?:(?:public|private|static|final) )*"
                + "(?:[A-Za-z]+(?:\\[\\])? )?([A-Za-z]+)\\(([^)]*)\\) \\{$");
        Pattern type = Pattern.compile("^(?: {4})?(?:(?:public|private|static|final) )+class ([A-Za-z]+) \\{$");
        String[] lines = code.split("\n", -1);
        String inside = "";
        for (int i = 0; i < lines.length; i++) {
            Matcher named = type.matcher(lines[i]);
            if (named.matches()) {
                inside = named.group(1);
                TYPES.add(inside);
            }
            if (lines[i].matches(" {4,8}private (final )?[A-Za-z]+(\\[\\])? [A-Za-z]+;")) {
                FIELDS.merge(inside, lines[i] + "\n", String::concat);
            }
            Matcher begun = head.matcher(lines[i]);
            if (begun.matches() && !lines[i].trim().startsWith("}")) {
                String end = lines[i].substring(0, lines[i].indexOf(lines[i].trim())) + "}";
                StringBuilder body = new StringBuilder();
                for (int j = i + 1; j < lines.length && !lines[j].equals(end); j++) {
                    body.append(lines[j]).append('\n');
                }
                PARTS.add(new Part(inside, begun.group(1), begun.group(2), body.toString()));
            }
        }
    }

    /** What the reader overlooked would not be tested. */
    private static void allIsRead() {
        Check.part("the reader of this test");
        List<Class<?>> types = new ArrayList<>(List.of(SnapshotFiles.class.getDeclaredClasses()));
        types.add(SnapshotFiles.class);
        Check.same("classes", TYPES.size(), types.size());
        for (Class<?> type : types) {
            Set<String> names = new TreeSet<>();
            for (Method method : type.getDeclaredMethods()) {
                if (!method.isSynthetic()) {
                    names.add(method.getName());
                }
            }
            for (String name : names) {
                Check.same(type.getSimpleName() + "." + name, named(type.getSimpleName(), name).size(), 1);
            }
        }
    }

    private static void wordsRuledOut(String code) {
        Check.part("rules 2, 3, 6: words ruled out");
        for (String word : WORDS_RULED_OUT) {
            Check.no(word, Pattern.compile("\\b" + word + "\\b").matcher(code).find());
        }
        Check.no("a lambda", code.contains("->"));
        Check.no("a method reference", code.contains("::"));
        Check.no("a text", code.contains("\""));
    }

    private static void namesOfTheLibrary(String code) {
        Check.part("rules 4, 13: no library but Math.max");
        Matcher names = Pattern.compile("\\b[A-Z][A-Za-z]*[a-z][A-Za-z]*\\b").matcher(code);
        while (names.find()) {
            String name = names.group();
            boolean own = TYPES.contains(name);
            Check.yes(name, own || code.startsWith("Math.max(", names.start()));
        }
    }

    private static void staticState(String code) {
        Check.part("rule 5: static fields are final");
        for (String line : code.split("\n")) {
            boolean isField = line.contains(" static ") && line.trim().endsWith(";");
            Check.yes(line.trim(), !isField || line.contains(" static final int"));
        }
        Check.no("a static initialiser block", Pattern.compile("\\bstatic\\s*\\{").matcher(code).find());
    }

    private static void shortMethods() {
        Check.part("rule 11: short methods with few parameters");
        for (Part part : PARTS) {
            Check.yes("lines of " + part.told(), part.body.split("\n").length <= MOST_LINES);
            Check.yes("parameters of " + part.told(), part.head.split(",").length <= MOST_PARAMETERS);
        }
    }

    private static void objectsAreMadeInConstructors() {
        Check.part("rule 12: no call makes an object");
        for (Part part : PARTS) {
            boolean makes = Pattern.compile("\\bnew\\b").matcher(part.body).find();
            Check.yes(part.told(), part.isConstructor() || !makes);
        }
    }

    private static void loopsHaveAnEnd() {
        Check.part("rule 9: every loop counts up to a bound");
        Pattern loop = Pattern.compile("\\bfor \\((.*)\\) \\{");
        for (Part part : PARTS) {
            Check.no("while in " + part.told(), Pattern.compile("\\b(while|do)\\b").matcher(part.body).find());
            Matcher loops = loop.matcher(part.body);
            while (loops.find()) {
                Check.yes(part.told() + ": " + loops.group(1),
                        loops.group(1).matches("int i = [a-z0-9]+; i < [A-Za-z_.]+\\b[^|]*; i\\+\\+"));
                Check.no("i set in " + part.told(), part.body.matches("(?s).*\\bi (=|\\+=|-=) (?!\\w+; i <).*"));
            }
        }
    }

    private static void noNameOfTheFaceAgain() {
        Check.part("rule 1: no private method bears the name of a public one");
        Set<String> face = new TreeSet<>();
        for (Method method : SnapshotFiles.class.getMethods()) {
            if (method.getDeclaringClass() == SnapshotFiles.class) {
                face.add(method.getName());
            }
        }
        for (String name : face) {
            Check.same(name, PARTS.stream().filter(part -> part.name.equals(name)).count(), 1);
        }
    }

    private static void callsAreNotDeep() {
        Check.part("rules 8, 11: calls are at most eight deep");
        for (Part part : PARTS) {
            Check.yes(part.told(), depth(part, 1) <= MOST_DEEP);
        }
    }

    /** Goes one level deeper than it may, so that recursion shows as too deep. */
    private static int depth(Part part, int level) {
        int deepest = level;
        if (level > MOST_DEEP) {
            return level;
        }
        Matcher calls = CALL.matcher(part.body);
        while (calls.find()) {
            for (Part called : calledBy(part, calls.group(1), calls.group(2))) {
                deepest = Math.max(deepest, depth(called, level + 1));
            }
        }
        return deepest;
    }

    /** Without an object before it a method of the same class is meant, or else one of the outer class. */
    private static List<Part> calledBy(Part caller, String object, String name) {
        if (object == null) {
            List<Part> own = named(caller.type, name);
            return own.isEmpty() ? named(TYPES.contains(name) ? name : OUTER, name) : own;
        }
        if (object.equals("Math")) {
            return List.of();
        }
        Matcher declared = Pattern.compile("\\b([A-Z][A-Za-z]*)(?:\\[\\])? " + object + "\\b")
                .matcher(caller.head + ";" + caller.body + FIELDS.get(caller.type));
        List<Part> found = declared.find() ? named(declared.group(1), name) : List.of();
        Check.same("methods that " + object + "." + name + " in " + caller.told() + " may mean", found.size(), 1);
        return found;
    }

    private static List<Part> named(String type, String name) {
        return PARTS.stream().filter(part -> part.type.equals(type) && part.name.equals(name)).toList();
    }

    private static void charactersOfTheText(String text) {
        Check.part("the program's text");
        Check.yes("plain characters alone", text.chars().allMatch(one -> one == '\n' || one >= ' ' && one <= '~'));
    }
}
