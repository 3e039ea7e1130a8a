import java.io.IOException;
import java.lang.reflect.Field;
import java.lang.reflect.Method;
import java.lang.reflect.Modifier;
import java.nio.file.Files;
import java.nio.file.Path;
import java.util.ArrayList;
import java.util.List;
import java.util.Set;
import java.util.TreeSet;

/** The public face, and such rules of LANGUAGE.md as can be seen in the text. Run where src stands. */
public final class FaceTest {
    private static final String[] FACE = {
        "boolean need(int, int) IndexOutOfBoundsException IllegalArgumentException",
        "boolean release(int, int) IndexOutOfBoundsException",
        "boolean needs(int, int) IndexOutOfBoundsException",
        "boolean dependsOn(int, int) IndexOutOfBoundsException",
        "int height(int) IndexOutOfBoundsException",
        "int tick(int) IllegalArgumentException",
        "int now()",
        "int raise(int) IndexOutOfBoundsException IllegalStateException",
        "int clear(int) IndexOutOfBoundsException IllegalStateException",
        "int state(int) IndexOutOfBoundsException",
        "int nodesThatAre(int) IllegalArgumentException",
        "int raises(int, int) IndexOutOfBoundsException IllegalArgumentException",
        "int events()",
        "int eventKind(int) IndexOutOfBoundsException",
        "int eventNode(int) IndexOutOfBoundsException",
        "int eventTime(int) IndexOutOfBoundsException",
        "int eventLength(int) IndexOutOfBoundsException",
        "int openTickets()",
        "int ticketOf(int) IndexOutOfBoundsException",
        "int ticketState(int)",
        "int ticketSize(int)",
        "int mergedInto(int)",
        "boolean isPlausible(int) IndexOutOfBoundsException",
        "int causes()",
        "int cause(int) IndexOutOfBoundsException",
        "int causeByTrying(int) IndexOutOfBoundsException",
        "int greedyCauses()",
        "int greedyCause(int) IndexOutOfBoundsException",
        "int causeOf(int) IndexOutOfBoundsException",
    };
    private static final String[] CONSTANTS = {"NONE=-1", "QUIET=0", "SHOWN=1", "FLAPPING=2", "SUPPRESSED=3",
        "UNUSED=0", "OPEN=1", "CLOSED=2", "MERGED=3", "RAISED=0", "CLEARED=1"};
    private static final String[] NOT_IN_THE_LANGUAGE = {"import ", "package ", "->", "::", "catch", "finally",
        "synchronized", "assert ", "instanceof", "java.", "toString", "hashCode", "static {"};

    private static final Check CHECK = new Check();

    public static void main(String[] args) throws IOException, IllegalAccessException {
        CHECK.due("modifiers", Alarmgrove.class.getModifiers(), Modifier.PUBLIC | Modifier.FINAL);
        CHECK.due("constructors", Alarmgrove.class.getDeclaredConstructors().length, 1);
        CHECK.due("constructor", Alarmgrove.class.getDeclaredConstructors()[0].toString(), "public Alarmgrove()");
        CHECK.due("methods", openMethods().toString(), new TreeSet<>(List.of(FACE)).toString());
        CHECK.due("constants", openFields().toString(), new TreeSet<>(List.of(CONSTANTS)).toString());
        privateNamesAreNotPublicOnes();
        textKeepsToTheLanguage();
        CHECK.end("FaceTest");
    }

    private static Set<String> openMethods() {
        Set<String> found = new TreeSet<>();
        for (Method method : Alarmgrove.class.getDeclaredMethods()) {
            if (!Modifier.isPrivate(method.getModifiers())) {
                List<String> types = new ArrayList<>();
                for (Class<?> type : method.getParameterTypes()) {
                    types.add(type.getSimpleName());
                }
                StringBuilder line = new StringBuilder(method.getReturnType().getSimpleName() + " " + method.getName());
                line.append("(").append(String.join(", ", types)).append(")");
                for (Class<?> type : method.getExceptionTypes()) {
                    line.append(" ").append(type.getSimpleName());
                }
                found.add(line.toString());
            }
        }
        return found;
    }

    private static Set<String> openFields() throws IllegalAccessException {
        Set<String> found = new TreeSet<>();
        for (Field field : Alarmgrove.class.getDeclaredFields()) {
            if (!Modifier.isPrivate(field.getModifiers())) {
                found.add(field.getName() + "=" + field.get(null));
            }
        }
        return found;
    }

    private static void privateNamesAreNotPublicOnes() {
        for (Method method : Alarmgrove.class.getDeclaredMethods()) {
            for (Method other : Alarmgrove.class.getDeclaredMethods()) {
                boolean isHidden = Modifier.isPrivate(method.getModifiers()) && Modifier.isPublic(other.getModifiers());
                CHECK.due(method + " beside " + other, isHidden && method.getName().equals(other.getName()), false);
            }
        }
    }

    private static void textKeepsToTheLanguage() throws IOException {
        String text = Files.readString(Path.of("src/main/java/Alarmgrove.java"));
        for (String word : NOT_IN_THE_LANGUAGE) {
            CHECK.due("'" + word + "' in the text", text.contains(word), false);
        }
        for (char sign : text.toCharArray()) {
            CHECK.due("sign " + (int) sign + " in the text", sign == '\n' || sign >= ' ' && sign < 127, true);
        }
    }
}
