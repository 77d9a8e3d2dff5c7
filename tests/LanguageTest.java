import java.lang.reflect.Constructor;
import java.lang.reflect.Field;
import java.lang.reflect.Method;
import java.lang.reflect.Modifier;
import java.nio.file.Files;
import java.nio.file.Path;
import java.util.Arrays;
import java.util.List;
import java.util.Set;
import java.util.TreeSet;
import java.util.regex.Matcher;
import java.util.regex.Pattern;

/**
 * The rules of LANGUAGE.md that can be seen from the class or, roughly, from its text. The
 * argument is the source file.
 */
public final class LanguageTest {
    private static final Set<String> FACE = new TreeSet<>(List.of(
            "add(int,int,int,int,int,int)", "remove(int)", "move(int,int,int)", "fall(int)",
            "split(int,int,int)", "breakRing()", "turn()", "set(int,int)", "type(char)",
            "clearText()", "addAll()", "undo()", "keep()", "restore()", "box(int)",
            "end(int,int,boolean)", "ofBox(int,int)", "pair(int,int)", "drawn(int)", "total(int)",
            "waitsFor(int)", "breaks()", "drawnWithout(int)"));
    private static final Set<String> CONSTANTS = new TreeSet<>(List.of(
            "UNKNOWN", "OUT_OF_RANGE", "FULL", "NOT_POSSIBLE", "NONE"));
    private static final Set<String> LIBRARY = Set.of("Arrays", "System", "Integer", "Math");
    private static final List<String> FORBIDDEN = List.of("throw", "throws", "try", "catch",
            "finally", "synchronized", "assert", "instanceof", "lambda", "->", "::", "equals",
            "hashCode", "toString", "String", "protected", "package", "native", "volatile");

    private LanguageTest() {
    }

    public static void main(String[] args) throws Exception {
        face();
        String source = Files.readString(Path.of(args[0]));
        Check.that("the source is ASCII", source.chars().allMatch(c -> c < 128));
        String code = withoutComments(source);
        words(code);
        methods(code);
        Check.end("LanguageTest");
    }

    private static void face() {
        Class<?> c = HidingBoxes.class;
        Check.that("the class is public and final",
                Modifier.isPublic(c.getModifiers()) && Modifier.isFinal(c.getModifiers()));
        Constructor<?>[] constructors = c.getDeclaredConstructors();
        Check.that("one public constructor without parameters", constructors.length == 1
                && constructors[0].getParameterCount() == 0
                && Modifier.isPublic(constructors[0].getModifiers()));
        Set<String> methods = new TreeSet<>();
        for (Method method : c.getDeclaredMethods()) {
            if (!Modifier.isPrivate(method.getModifiers())) {
                methods.add(method.getName() + Arrays.toString(Arrays.stream(method.getParameterTypes())
                        .map(Class::getName).toArray()).replace(" ", "").replace('[', '(').replace(']', ')'));
                Check.that(method + " is public and answers an int", method.getReturnType() == int.class
                        && Modifier.isPublic(method.getModifiers()));
            }
        }
        Check.that("the methods of the face and no others: " + methods, methods.equals(FACE));
        Set<String> constants = new TreeSet<>();
        for (Field field : c.getDeclaredFields()) {
            if (!Modifier.isPrivate(field.getModifiers())) {
                constants.add(field.getName());
            }
            Check.that(field + ": a static field is final",
                    !Modifier.isStatic(field.getModifiers()) || Modifier.isFinal(field.getModifiers()));
        }
        Check.that("the constants and no others: " + constants, constants.equals(CONSTANTS));
        for (Class<?> inner : c.getDeclaredClasses()) {
            Check.that(inner + " is static and not public", Modifier.isStatic(inner.getModifiers())
                    && !Modifier.isPublic(inner.getModifiers()));
            for (Method method : inner.getDeclaredMethods()) {
                Check.that(method + " has no name of the face",
                        FACE.stream().noneMatch(f -> f.startsWith(method.getName() + "(")));
            }
        }
    }

    private static String withoutComments(String source) {
        return source.replaceAll("(?s)/\\*.*?\\*/", "").replaceAll("//[^\n]*", "");
    }

    private static void words(String code) {
        for (String word : FORBIDDEN) {
            boolean isSign = !Character.isLetter(word.charAt(0));
            Pattern pattern = Pattern.compile(isSign ? Pattern.quote(word) : "\\b" + word + "\\b");
            Check.that("no " + word, !pattern.matcher(code).find());
        }
        Matcher calls = Pattern.compile("\\b([A-Z][A-Za-z]*)\\.[a-z]").matcher(code);
        while (calls.find()) {
            Check.that(calls.group(1) + " is of the library", LIBRARY.contains(calls.group(1)));
        }
        Matcher imports = Pattern.compile("import ([^;]*);").matcher(code);
        while (imports.find()) {
            Check.that("import " + imports.group(1), imports.group(1).equals("java.util.Arrays"));
        }
        Check.that("no static method named Exact", !code.contains("Exact("));
    }

    private static void methods(String code) {
        String[] lines = code.split("\n");
        int start = -1;
        String indent = "";
        for (int i = 0; i < lines.length; i++) {
            Matcher head = Pattern.compile("^( {4}| {8})[A-Za-z].*\\).*\\{$").matcher(lines[i]);
            if (start < 0 && head.matches() && !lines[i].contains("=")) {
                start = i;
                indent = head.group(1);
            } else if (start >= 0 && lines[i].equals(indent + "}")) {
                Check.that(lines[start] + " is short", i - start <= 60);
                Check.that(lines[start] + " has at most seven parameters",
                        lines[start].chars().filter(c -> c == ',').count() < 7);
                // All is made once, by the constructors, for what the calls make is counted.
                boolean isConstructor = lines[start].matches("^ +(public )?[A-Z]\\w*\\(.*");
                String body = String.join("\n", Arrays.copyOfRange(lines, start, i));
                Check.that(lines[start] + " makes nothing",
                        isConstructor || !Pattern.compile("\\bnew\\b").matcher(body).find());
                start = -1;
            }
        }
    }
}
