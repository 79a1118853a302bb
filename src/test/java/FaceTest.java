import java.io.IOException;
import java.lang.reflect.Constructor;
import java.lang.reflect.Field;
import java.lang.reflect.Method;
import java.lang.reflect.Modifier;
import java.nio.file.Files;
import java.nio.file.Path;
import java.util.ArrayList;
import java.util.Arrays;
import java.util.List;
import java.util.regex.Matcher;
import java.util.regex.Pattern;

/** The public face, and those rules of LANGUAGE.md that can be seen from outside or by words. */
public final class FaceTest {
    private static final String SOURCE = "src/main/java/SenderRows.java";

    private static final String[] FACE = {
        "int prime(int)", "int hearers(int)", "int sender(int,int)", "int drop()", "int gain(int,int)",
        "int read(int,int)", "int heard(int)", "int count(int)", "int order(int,int)", "int law(int,int,int)",
        "int slant(int,int,int)", "int strength(int,int,int)", "int mended(int,int,int,int)", "int tune(int)",
        "int twin(int,int)", "int weight(int)", "int best(int)", "int station(int,int,int,int)",
        "int look(int,int,int)", "long crossing(int,int,int)", "int borne(int,int,int)", "int most(int,int)"};

    private static final String[] CONSTANTS = {"NONE", "UNKNOWN", "OUTSIDE", "NOT", "FULL"};

    private static final String[] FORBIDDEN = {
        "throw", "throws", "try", "catch", "synchronized", "assert", "import", "package", "native", "volatile",
        "transient", "Object", "double", "float", "\\w+Exact", "->", "::", "\\.equals", "hashCode", "toString"};

    /** Of the library of rule 4, what the class has need of. */
    private static final String[] LIBRARY = {"Math.max", "Math.abs", "Integer.bitCount", "System.arraycopy"};

    private static final Pattern METHOD = Pattern.compile("( *)[\\w\\[\\]. ]*\\b(\\w+)\\(([\\w\\[\\], ]*)\\) \\{");
    private static final Pattern ROW_OF_AN_OBJECT = Pattern.compile(" *(private )?(final )?int\\[\\] \\w+ = new int\\[[A-Z_ +1]+\\];");

    public static void main(String[] args) throws IOException {
        Due due = new Due();
        theClass(due);
        methods(due);
        constants(due);
        classesInside(due);
        words(due);
        library(due);
        methodsAreShort(due);
        objectsAreMadeAtFirst(due);
        loopsHaveAnEnd(due);
        due.end();
    }

    private static void theClass(Due due) {
        int modifiers = SenderRows.class.getModifiers();
        due.holds("public", Modifier.isPublic(modifiers));
        due.holds("final", Modifier.isFinal(modifiers));
        Constructor<?>[] constructors = SenderRows.class.getDeclaredConstructors();
        due.is("constructors", constructors.length, 1);
        due.holds("public constructor", Modifier.isPublic(constructors[0].getModifiers()));
        due.is("its parameters", constructors[0].getParameterCount(), 0);
    }

    private static String said(Method m) {
        List<String> parameters = new ArrayList<>();
        for (Class<?> type : m.getParameterTypes()) parameters.add(type.getName());
        return m.getReturnType().getName() + " " + m.getName() + "(" + String.join(",", parameters) + ")";
    }

    private static void methods(Due due) {
        List<String> wanted = new ArrayList<>(Arrays.asList(FACE));
        for (Method m : SenderRows.class.getDeclaredMethods()) {
            if (Modifier.isPrivate(m.getModifiers())) continue;
            due.holds("public: " + m, Modifier.isPublic(m.getModifiers()) && !Modifier.isStatic(m.getModifiers()));
            due.holds("of the face: " + m, wanted.remove(said(m)));
        }
        due.holds("all of the face: " + wanted, wanted.isEmpty());
    }

    private static void constants(Due due) {
        int seen = 0;
        for (Field f : SenderRows.class.getDeclaredFields()) {
            if (Modifier.isStatic(f.getModifiers())) due.holds("final: " + f, Modifier.isFinal(f.getModifiers()));
            if (Modifier.isPrivate(f.getModifiers())) continue;
            seen++;
            due.holds("of the face: " + f, Arrays.asList(CONSTANTS).contains(f.getName()) && f.getType() == int.class);
        }
        due.is("constants", seen, CONSTANTS.length);
        due.is("NONE", SenderRows.NONE, -1);
        due.is("UNKNOWN", SenderRows.UNKNOWN, -1001);
        due.is("OUTSIDE", SenderRows.OUTSIDE, -1002);
        due.is("NOT", SenderRows.NOT, -1003);
        due.is("FULL", SenderRows.FULL, -1004);
    }

    private static void classesInside(Due due) {
        due.holds("some twelve classes", SenderRows.class.getDeclaredClasses().length <= 11);
        for (Class<?> c : SenderRows.class.getDeclaredClasses()) {
            due.holds("static: " + c, Modifier.isStatic(c.getModifiers()));
            due.holds("not public: " + c, !Modifier.isPublic(c.getModifiers()) && !Modifier.isProtected(c.getModifiers()));
            due.holds("some twenty fields: " + c, c.getDeclaredFields().length <= 20);
            for (Method m : c.getDeclaredMethods()) {
                due.holds("seven parameters: " + m, m.getParameterCount() <= 7);
                for (String call : FACE) due.holds("a name of its own: " + m, !call.contains(" " + m.getName() + "("));
            }
        }
    }

    /** The class without its comments, each line where it was. */
    private static String code() throws IOException {
        StringBuilder code = new StringBuilder();
        for (String line : Files.readString(Path.of(SOURCE)).split("\n")) {
            String bare = line.replaceAll("//.*", "").replaceAll("/\\*.*?\\*/", "");
            code.append(bare.matches("\\s*/?\\*.*") ? "" : bare).append('\n');
        }
        return code.toString();
    }

    private static void words(Due due) throws IOException {
        String source = Files.readString(Path.of(SOURCE));
        due.holds("plain signs alone", source.chars().allMatch(sign -> sign < 128));
        String code = code();
        for (String word : FORBIDDEN) {
            String edge = Character.isLetter(word.charAt(0)) ? "\\b" : "";
            Matcher m = Pattern.compile(edge + word + edge).matcher(code);
            due.holds("not in the language: " + word, !m.find());
        }
    }

    /** Rule 4. */
    private static void library(Due due) throws IOException {
        Matcher m = Pattern.compile("\\b[A-Z]\\w*[a-z]\\w*\\.\\w+(?=\\()").matcher(code());
        List<String> own = new ArrayList<>();
        for (Class<?> c : SenderRows.class.getDeclaredClasses()) own.add(c.getSimpleName());
        while (m.find()) {
            String of = m.group().substring(0, m.group().indexOf('.'));
            due.holds("of the library: " + m.group(), own.contains(of) || Arrays.asList(LIBRARY).contains(m.group()));
        }
    }

    /** Rule 11: a method ends with the brace that stands where it begins. */
    private static void methodsAreShort(Due due) throws IOException {
        String[] lines = code().split("\n");
        int seen = 0;
        for (int at = 0; at < lines.length; at++) {
            Matcher m = METHOD.matcher(lines[at]);
            if (!m.matches() || lines[at].matches(" *(if|for|while|switch) .*")) continue;
            int end = at;
            while (end < lines.length && !lines[end].equals(m.group(1) + "}")) end++;
            due.holds("some sixty lines: " + m.group(2), end - at < 60);
            due.holds("seven parameters: " + m.group(2), m.group(3).split(",").length <= 7);
            seen++;
        }
        due.holds("methods were seen: " + seen, seen > FACE.length);
    }

    /** Rule 12: all that an object has need of is made with it, and none by a call. */
    private static void objectsAreMadeAtFirst(Due due) throws IOException {
        String[] lines = code().split("\n");
        boolean constructor = false;
        for (String line : lines) {
            if (METHOD.matcher(line).matches()) constructor = line.matches(" *(public )?[A-Z]\\w*\\(.*");
            if (!line.matches(".*\\bnew\\b.*")) continue;
            due.holds("made with the object: " + line.trim(), constructor || ROW_OF_AN_OBJECT.matcher(line).matches());
        }
    }

    /** Rule 9, as far as it is seen from a line: a counter against a bound, and no other loops. */
    private static void loopsHaveAnEnd(Due due) throws IOException {
        for (String line : code().split("\n")) {
            due.holds("a loop with a counter: " + line.trim(), !line.matches(".*\\b(while|do)\\b.*"));
            if (!line.matches(" *for .*")) continue;
            due.holds("a counter against a bound: " + line.trim(),
                line.matches(" *for \\(int (\\w+) = [^;]+; [^;]*\\b\\1( \\* \\1)? (<|<=|>=) [^;]+; \\1(\\+\\+|--)\\) \\{"));
        }
    }
}
