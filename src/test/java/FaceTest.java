import java.io.IOException;
import java.lang.reflect.Constructor;
import java.lang.reflect.Field;
import java.lang.reflect.Method;
import java.lang.reflect.Modifier;
import java.nio.charset.StandardCharsets;
import java.nio.file.Files;
import java.nio.file.Path;
import java.util.Arrays;
import java.util.List;
import java.util.TreeSet;

/** The face of the class: what is public is what the document tells, and nothing else is seen from outside. */
public final class FaceTest {
    private static final String[] FACE = {
        "int member()",
        "int ship(int,int)",
        "void enter(int)",
        "int leave(int)",
        "int pass(int)",
        "int day()",
        "int rate(int,int,int)",
        "long weight(int,int)",
        "long weightAnew(int,int)",
        "void rule(int,int,int,int)",
        "void pool(int,int,int,int)",
        "int claim(int,int,int,int,int)",
        "int collide(int,int,int,int,int)",
        "int estimate(int,int)",
        "void settle(int,boolean)",
        "void broken(int)",
        "long ofClaim(int,int)",
        "long ofEvent(int,int)",
        "long cost(int)",
        "int advance(int,int)",
        "int further(int,int)",
        "int release(int,int)",
        "long pay(int,int)",
        "int stop(int,int)",
        "long close(int)",
        "long due(int,int)",
        "long owes(int)",
        "long result(int)",
        "boolean isClosed(int)",
        "long reserve()",
        "int letter(int,int)",
        "boolean arrest(int,int)",
        "boolean isArrested(int)",
    };
    private static final List<String> CONSTANTS =
            List.of("NONE", "CREW", "CARGO", "COLLISION", "POLLUTION");

    private FaceTest() {
    }

    public static void main(String[] args) throws IOException {
        asTheDocumentWritesIt();
        theClass();
        theMethods();
        theConstants();
        theFields();
        theClassesInside();
        Check.end();
    }

    /** Each line of the document's face stands in the class: names of parameters and declared exceptions, too. */
    private static void asTheDocumentWritesIt() throws IOException {
        Path path = Path.of(System.getProperty("shared", "../shared"), "DOC.md");
        if (!Files.isReadable(path)) {
            System.out.println(path + " is not there; the face was not compared with it");
            return;
        }
        String text = Files.readString(path, StandardCharsets.UTF_8);
        String face = text.substring(text.indexOf("## The public face"), text.indexOf("## Terms"));
        Path main = Path.of(System.getProperty("root", "."), "src/main/java/CallClub.java");
        String written = Files.readString(main, StandardCharsets.UTF_8).replaceAll("\\s+", " ");
        int lines = 0;
        for (String line : face.split("\n")) {
            String words = line.strip();
            if (words.startsWith("public ")) {
                lines++;
                String end = words.contains(" = ") || words.endsWith("{") ? "" : " {";
                String due = end.isEmpty() ? words : words.substring(0, words.length() - 1) + end;
                Check.equal("the class has the line " + words, written.contains(due), true);
            }
        }
        Check.equal("lines of the face", lines, FACE.length + 4);
    }

    private static void theClass() {
        Check.equal("public", Modifier.isPublic(CallClub.class.getModifiers()), true);
        Check.equal("final", Modifier.isFinal(CallClub.class.getModifiers()), true);
        Constructor<?>[] made = CallClub.class.getDeclaredConstructors();
        Check.equal("one constructor", made.length, 1);
        Check.equal("a public one", Modifier.isPublic(made[0].getModifiers()), true);
        Check.equal("without parameters", made[0].getParameterCount(), 0);
    }

    private static void theMethods() {
        TreeSet<String> due = new TreeSet<>(Arrays.asList(FACE));
        TreeSet<String> publicNames = new TreeSet<>();
        for (Method method : CallClub.class.getDeclaredMethods()) {
            if (Modifier.isPublic(method.getModifiers())) {
                publicNames.add(method.getName());
                if (!due.remove(signature(method))) {
                    Check.tell("not in the face: " + signature(method));
                }
            } else if (!Modifier.isPrivate(method.getModifiers())) {
                Check.tell("neither public nor private: " + signature(method));
            }
        }
        Check.equal("missing " + due, due.size(), 0);
        for (Method method : CallClub.class.getDeclaredMethods()) {
            if (Modifier.isPrivate(method.getModifiers()) && publicNames.contains(method.getName())) {
                Check.tell("a private method bears a public one's name: " + signature(method));
            }
        }
    }

    private static String signature(Method method) {
        StringBuilder text = new StringBuilder();
        for (Class<?> parameter : method.getParameterTypes()) {
            text.append(text.length() == 0 ? "" : ",").append(parameter.getSimpleName());
        }
        return method.getReturnType().getSimpleName() + " " + method.getName() + "(" + text + ")";
    }

    private static void theConstants() {
        int[] want = {CallClub.NONE, CallClub.CREW, CallClub.CARGO, CallClub.COLLISION, CallClub.POLLUTION};
        for (int i = 0; i < want.length; i++) {
            Check.equal(CONSTANTS.get(i), want[i], i - 1);
        }
    }

    private static void theFields() {
        for (Field field : CallClub.class.getDeclaredFields()) {
            boolean constant = CONSTANTS.contains(field.getName());
            int modifiers = field.getModifiers();
            Check.equal("public " + field.getName(), Modifier.isPublic(modifiers), constant);
            Check.equal("private " + field.getName(), Modifier.isPrivate(modifiers), !constant);
            if (Modifier.isStatic(modifiers)) {
                Check.equal("final " + field.getName(), Modifier.isFinal(modifiers), true);
            }
        }
    }

    private static void theClassesInside() {
        Class<?>[] inside = CallClub.class.getDeclaredClasses();
        Check.equal("some twelve classes", inside.length < 12, true);
        for (Class<?> one : inside) {
            Check.equal("not public " + one, Modifier.isPublic(one.getModifiers()), false);
            Check.equal("static " + one, Modifier.isStatic(one.getModifiers()), true);
            Check.equal("some twenty fields " + one, one.getDeclaredFields().length <= 20, true);
        }
    }
}
