import java.lang.reflect.Constructor;
import java.lang.reflect.Field;
import java.lang.reflect.Member;
import java.lang.reflect.Method;
import java.lang.reflect.Modifier;
import java.nio.file.Files;
import java.nio.file.Path;
import java.util.ArrayList;
import java.util.Arrays;
import java.util.List;
import java.util.TreeSet;
import java.util.regex.Matcher;
import java.util.regex.Pattern;

/**
 * The public face: what the document's "The public face" says is what the source declares, line
 * by line, and what the class has. The argument is the source file.
 */
public final class FaceTest {
    private static final Path DOCUMENT = Path.of("..", "shared", "DOC.md");
    private static final Pattern HEAD = Pattern.compile("Ahead of the calls (.*) the interface says: ---- (.*)\\.");

    private FaceTest() {
    }

    public static void main(String[] args) throws Exception {
        List<String> source = Files.readAllLines(Path.of(args[0]));
        if (Files.exists(DOCUMENT)) {
            List<String> document = Files.readAllLines(DOCUMENT);
            declarations(document, source);
            heads(document, source);
            members(document);
        } else {
            System.out.println("no document at " + DOCUMENT + ": the face is not looked up");
        }
        objectsAreApart();
        Check.end("FaceTest");
    }

    /** The lines of the document's face, without the class's own head and end. */
    private static List<String> face(List<String> document) {
        int start = document.indexOf("public final class HidingBoxes {");
        Check.that("the document has a face", start > 0);
        List<String> face = new ArrayList<>();
        for (int i = start + 1; i < document.size() && !document.get(i).equals("}"); i++) {
            face.add(document.get(i).trim());
        }
        Check.due("lines of the face", face.size(), 5 + 1 + 23);
        return face;
    }

    /** The source declares the same, with the same names of parameters, in the same order. */
    private static void declarations(List<String> document, List<String> source) {
        List<String> declared = new ArrayList<>();
        for (String line : source) {
            if (line.startsWith("    public ")) {
                declared.add(line.trim().replaceAll(" \\{$", ";"));
            }
        }
        List<String> face = face(document);
        Check.due("declarations", declared.size(), face.size());
        for (int i = 0; i < Math.min(declared.size(), face.size()); i++) {
            Check.that(declared.get(i) + " is " + face.get(i), declared.get(i).equals(face.get(i)));
        }
        Check.that("the class is public and final", source.contains("public final class HidingBoxes {"));
        Check.that("there is no package", source.stream().noneMatch(line -> line.startsWith("package")));
    }

    /** Each head stands in the source ahead of the calls that the document names, and no others. */
    private static void heads(List<String> document, List<String> source) {
        int heads = 0;
        for (String line : document) {
            Matcher matcher = HEAD.matcher(line);
            if (matcher.matches()) {
                heads++;
                String named = matcher.group(1).replaceAll("[`,]", "");
                String found = String.join(" ", callsBehind("    // ---- " + matcher.group(2), source));
                Check.that(matcher.group(2) + ": " + found + " is " + named, found.equals(named));
            }
        }
        Check.due("heads", heads, 5);
    }

    private static List<String> callsBehind(String head, List<String> source) {
        List<String> calls = new ArrayList<>();
        int start = source.indexOf(head);
        Check.that("there is" + head, start >= 0);
        for (int i = start + 1; i < source.size() && !source.get(i).startsWith("    // ----"); i++) {
            Matcher matcher = Pattern.compile("    public int (\\w+)\\(.*").matcher(source.get(i));
            if (matcher.matches()) {
                calls.add(matcher.group(1));
            }
        }
        return calls;
    }

    /** What the class has that is not private is the face, and no more than that. */
    private static void members(List<String> document) throws IllegalAccessException {
        Class<?> c = HidingBoxes.class;
        TreeSet<String> found = new TreeSet<>();
        for (Field field : c.getDeclaredFields()) {
            if (isShown(field)) {
                found.add(Modifier.toString(field.getModifiers()) + " " + field.getType() + " " + field.getName()
                        + " = " + field.get(null) + ";");
            }
        }
        for (Constructor<?> constructor : c.getDeclaredConstructors()) {
            if (isShown(constructor)) {
                found.add("public HidingBoxes(" + types(constructor.getParameterTypes()) + ");");
            }
        }
        for (Method method : c.getDeclaredMethods()) {
            if (isShown(method)) {
                found.add(Modifier.toString(method.getModifiers()) + " " + method.getReturnType() + " "
                        + method.getName() + "(" + types(method.getParameterTypes()) + ");");
            }
        }
        TreeSet<String> due = new TreeSet<>();
        face(document).forEach(line -> due.add(line.replaceAll(" \\w+(?=[,)])", "")));
        Check.that("the class has " + found + ", due is " + due, found.equals(due));
        Check.due("the class's modifiers", c.getModifiers(), Modifier.PUBLIC | Modifier.FINAL);
    }

    private static boolean isShown(Member member) {
        return !Modifier.isPrivate(member.getModifiers()) && !member.isSynthetic();
    }

    private static String types(Class<?>[] types) {
        return String.join(", ", Arrays.stream(types).map(Class::getName).toList());
    }

    /** No state is shared: what is done to one object is not seen on another one. */
    private static void objectsAreApart() {
        HidingBoxes one = new HidingBoxes();
        HidingBoxes other = new HidingBoxes();
        Check.due("one.add", one.add(0, 0, 0, 2, 2, 2), 0);
        Check.due("one.set", one.set(0, 2), 0);
        Check.due("one.type", one.type('1'), 1);
        Check.due("one.keep", one.keep(), 1);
        int[] ofNew = {0, 0, 0, 0, 0, -5, -5, 0, 0, 0, 0, 0, 0};
        for (int what = 0; what < ofNew.length; what++) {
            Check.due("other.total(" + what + ")", other.total(what), ofNew[what]);
        }
        Check.due("other.restore", other.restore(), -5);
        Check.due("other.undo", other.undo(), -5);
        Check.due("other.add", other.add(0, 0, 0, 1, 1, 1), 0);
        Check.due("one's box", one.ofBox(0, 0), 8);
    }
}
