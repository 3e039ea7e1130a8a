import java.io.IOException;
import java.lang.reflect.Field;
import java.lang.reflect.Method;
import java.lang.reflect.Modifier;
import java.nio.file.Files;
import java.nio.file.Path;
import java.util.ArrayList;
import java.util.List;
import java.util.Set;
import java.util.TreeSet;
import java.util.regex.Matcher;
import java.util.regex.Pattern;

/**
 * The public face, as ../shared/DOC.md writes it, and such rules of LANGUAGE.md as can be seen in the text.
 * Run where src stands.
 */
public final class FaceTest {
    private static final Pattern METHOD = Pattern.compile("    public (\\w+ \\w+)\\((.*)\\)(?: throws (.*))?;");
    private static final Pattern CONSTANTS = Pattern.compile("    public static final int (.*);");
    private static final Pattern SECTION = Pattern.compile("Ahead of the calls (.*) the interface says: (.*)\\.");
    private static final Pattern OPEN_METHOD = Pattern.compile("    public \\w+ (\\w+)\\(.*");

    private static final int METHODS = 29;
    private static final int OPEN_FIELDS = 11;
    private static final int SECTIONS = 5;
    private static final String[] NOT_IN_THE_LANGUAGE = {"import ", "package ", "->", "::", "catch", "finally",
        "synchronized", "assert ", "instanceof", "java.", "toString", "hashCode", "static {"};

    private static final Check CHECK = new Check();

    public static void main(String[] args) throws IOException, IllegalAccessException {
        List<String> document = Files.readAllLines(Path.of("../shared/DOC.md"));
        String text = Files.readString(Path.of("src/main/java/Alarmgrove.java"));
        CHECK.due("modifiers", Alarmgrove.class.getModifiers(), Modifier.PUBLIC | Modifier.FINAL);
        CHECK.due("constructors", Alarmgrove.class.getDeclaredConstructors().length, 1);
        CHECK.due("constructor", Alarmgrove.class.getDeclaredConstructors()[0].toString(), "public Alarmgrove()");
        faceIsThatOfTheDocument(document);
        sectionsAreThoseOfTheDocument(document, text);
        privateNamesAreNotPublicOnes();
        textKeepsToTheLanguage(text);
        CHECK.end("FaceTest");
    }

    private static void faceIsThatOfTheDocument(List<String> document) throws IllegalAccessException {
        Set<String> methods = new TreeSet<>();
        Set<String> fields = new TreeSet<>();
        for (String line : document) {
            Matcher method = METHOD.matcher(line);
            Matcher constants = CONSTANTS.matcher(line);
            if (method.matches()) {
                String types = method.group(2).replaceAll(" \\w+(, |$)", "$1");
                String thrown = method.group(3) == null ? "" : " throws " + method.group(3);
                methods.add(method.group(1) + "(" + types + ")" + thrown);
            } else if (constants.matches()) {
                fields.addAll(List.of(constants.group(1).split(", ")));
            }
        }
        CHECK.due("methods in the document", methods.size(), METHODS);
        CHECK.due("constants in the document", fields.size(), OPEN_FIELDS);
        CHECK.due("methods", openMethods().toString(), methods.toString());
        CHECK.due("constants", openFields().toString(), fields.toString());
    }

    private static Set<String> openMethods() {
        Set<String> found = new TreeSet<>();
        for (Method method : Alarmgrove.class.getDeclaredMethods()) {
            if (!Modifier.isPrivate(method.getModifiers())) {
                String thrown = names(method.getExceptionTypes());
                found.add((method.getModifiers() == Modifier.PUBLIC ? "" : "not only public ")
                    + method.getReturnType().getSimpleName() + " " + method.getName()
                    + "(" + names(method.getParameterTypes()) + ")" + (thrown.isEmpty() ? "" : " throws " + thrown));
            }
        }
        return found;
    }

    private static String names(Class<?>[] types) {
        List<String> names = new ArrayList<>();
        for (Class<?> type : types) {
            names.add(type.getSimpleName());
        }
        return String.join(", ", names);
    }

    private static Set<String> openFields() throws IllegalAccessException {
        int modifiers = Modifier.PUBLIC | Modifier.STATIC | Modifier.FINAL;
        Set<String> found = new TreeSet<>();
        for (Field field : Alarmgrove.class.getDeclaredFields()) {
            if (!Modifier.isPrivate(field.getModifiers())) {
                boolean isConstant = field.getModifiers() == modifiers && field.getType() == int.class;
                found.add(field.getName() + " = " + (isConstant ? field.get(null) : "no constant"));
            }
        }
        return found;
    }

    /** Ahead of which calls which words stand. */
    private static void sectionsAreThoseOfTheDocument(List<String> document, String text) {
        int sections = 0;
        for (String line : document) {
            Matcher section = SECTION.matcher(line);
            if (section.matches()) {
                sections++;
                String calls = section.group(1).replace("`", "");
                CHECK.due("calls behind " + section.group(2), callsBehind(text, section.group(2)), calls);
            }
        }
        CHECK.due("sections in the document", sections, SECTIONS);
    }

    private static String callsBehind(String text, String words) {
        List<String> calls = new ArrayList<>();
        boolean isBehind = false;
        for (String line : text.split("\n")) {
            if (line.startsWith("    // ----")) {
                isBehind = line.equals("    // " + words);
            }
            Matcher method = OPEN_METHOD.matcher(line);
            if (isBehind && method.matches()) {
                calls.add(method.group(1));
            }
        }
        return String.join(", ", calls);
    }

    private static void privateNamesAreNotPublicOnes() {
        for (Method method : Alarmgrove.class.getDeclaredMethods()) {
            for (Method other : Alarmgrove.class.getDeclaredMethods()) {
                boolean isHidden = Modifier.isPrivate(method.getModifiers()) && Modifier.isPublic(other.getModifiers());
                CHECK.due(method + " beside " + other, isHidden && method.getName().equals(other.getName()), false);
            }
        }
    }

    private static void textKeepsToTheLanguage(String text) {
        for (String word : NOT_IN_THE_LANGUAGE) {
            CHECK.due("'" + word + "' in the text", text.contains(word), false);
        }
        for (char sign : text.toCharArray()) {
            CHECK.due("sign " + (int) sign + " in the text", sign == '\n' || sign >= ' ' && sign < 127, true);
        }
    }
}
