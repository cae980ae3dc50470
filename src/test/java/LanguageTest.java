import java.io.IOException;
import java.lang.reflect.Constructor;
import java.lang.reflect.Field;
import java.lang.reflect.Method;
import java.lang.reflect.Modifier;
import java.nio.charset.StandardCharsets;
import java.nio.file.Files;
import java.nio.file.Path;
import java.util.Arrays;
import java.util.List;
import java.util.Set;
import java.util.TreeSet;
import java.util.regex.Matcher;
import java.util.regex.Pattern;

/** The face of the class, and the rules of LANGUAGE.md that its source and its compiled form show. */
public final class LanguageTest {
    private static final String FACE = "write(int) wipe() fault() leaf() about(int) grey(int,int) shows(int)"
            + " window(int,int) spread(int,int,boolean) mark(int) under(int) cleaned(int) paint(int,int,int) light(int)"
            + " rule(int,int,int) table(int,int) lay(int,int) undo() fit(int,int,boolean) best(int) judge(int,long)"
            + " share(int,boolean) see(int,int) unsee() ways(int) bleached(int,int,int,boolean) seed(long) drawn(int)"
            + " keep(int) again(int)";
    private static final List<String> FORBIDDEN = List.of("import", "package", "throw", "throws", "try", "catch",
            "finally", "synchronized", "assert", "native", "volatile", "transient", "strictfp", "super", "hashCode",
            "equals", "toString", "Object", "Class", "Thread", "Random", "Exception", "var");
    private static final Set<String> LIBRARY = Set.of("Math", "Integer", "Long", "System", "Arrays");
    private static final int LONGEST_METHOD = 60, MOST_CLASSES = 12, MOST_FIELDS = 20, MOST_PARAMETERS = 7;

    public static void main(String[] args) throws IOException {
        face();
        constants();
        int classes = 1;
        members(LeafInk.class);
        for (Class<?> inside : LeafInk.class.getDeclaredClasses()) {
            classes++;
            Due.that(inside + " is static", Modifier.isStatic(inside.getModifiers()));
            Due.that(inside + " is not public", !Modifier.isPublic(inside.getModifiers()));
            members(inside);
        }
        Due.that("few classes", classes <= MOST_CLASSES);
        source(Files.readString(Path.of("src/main/java/LeafInk.java"), StandardCharsets.UTF_8));
        Due.end();
    }

    private static void face() {
        Due.that("public and final", Modifier.isPublic(LeafInk.class.getModifiers())
                && Modifier.isFinal(LeafInk.class.getModifiers()));
        Set<String> found = new TreeSet<>();
        for (Method method : LeafInk.class.getDeclaredMethods()) {
            if (!Modifier.isPrivate(method.getModifiers())) {
                Due.that(method + " is public", Modifier.isPublic(method.getModifiers()));
                Class<?> answers = method.getName().equals("seed") ? long.class : int.class;
                Due.that(method + " answers " + answers, method.getReturnType() == answers);
                found.add(signature(method));
            }
        }
        Set<String> want = new TreeSet<>(Arrays.asList(FACE.split(" ")));
        Due.that("the face " + found, found.equals(want));
        Constructor<?>[] constructors = LeafInk.class.getDeclaredConstructors();
        Due.that("one public constructor", constructors.length == 1 && constructors[0].getParameterCount() == 0
                && Modifier.isPublic(constructors[0].getModifiers()));
    }

    private static String signature(Method method) {
        StringBuilder types = new StringBuilder();
        for (Class<?> type : method.getParameterTypes()) {
            types.append(types.length() == 0 ? "" : ",").append(type.getName());
        }
        return method.getName() + "(" + types + ")";
    }

    private static void constants() {
        Due.is("UNKNOWN", LeafInk.UNKNOWN, -1);
        Due.is("BAD", LeafInk.BAD, -2);
        Due.is("LATE", LeafInk.LATE, -3);
        Due.is("FULL", LeafInk.FULL, -4);
        Due.is("NONE", LeafInk.NONE, -9);
        Set<String> names = new TreeSet<>();
        for (Field field : LeafInk.class.getDeclaredFields()) {
            if (!Modifier.isPrivate(field.getModifiers())) {
                Due.that(field + " is a public constant", Modifier.isPublic(field.getModifiers())
                        && Modifier.isStatic(field.getModifiers()));
                names.add(field.getName());
            }
        }
        Due.that("the constants " + names, names.equals(Set.of("UNKNOWN", "BAD", "LATE", "FULL", "NONE")));
    }

    private static void members(Class<?> type) {
        Set<String> publicNames = new TreeSet<>();
        for (String call : FACE.split(" ")) {
            publicNames.add(call.substring(0, call.indexOf('(')));
        }
        for (Method method : type.getDeclaredMethods()) {
            boolean isFace = type == LeafInk.class && Modifier.isPublic(method.getModifiers());
            Due.that(method + " has a name of its own", isFace || !publicNames.contains(method.getName()));
            Due.that(method + " has few parameters", method.getParameterCount() <= MOST_PARAMETERS);
        }
        int fields = 0;
        for (Field field : type.getDeclaredFields()) {
            boolean isStatic = Modifier.isStatic(field.getModifiers());
            Due.that(field + " is final, if it is static", !isStatic || Modifier.isFinal(field.getModifiers()));
            fields += isStatic ? 0 : 1;
        }
        Due.that(type + " has few fields", fields <= MOST_FIELDS);
    }

    private static void source(String text) {
        Due.that("signs are 1 to 127", text.chars().allMatch(sign -> sign >= 1 && sign <= 127));
        String code = text.replaceAll("//[^\n]*", "").replaceAll("(?s)/\\*.*?\\*/", "");
        for (String word : FORBIDDEN) {
            Due.that("no " + word, !Pattern.compile("\\b" + word + "\\b").matcher(code).find());
        }
        Due.that("no lambda", !code.contains("->"));
        Due.that("no method reference", !code.contains("::"));
        Due.that("no texts", code.indexOf('"') < 0);
        Due.that("no static block", !Pattern.compile("static\\s*\\{").matcher(code).find());
        Matcher library = Pattern.compile("\\b([A-Z][A-Za-z]*[a-z][A-Za-z]*)\\.").matcher(code);
        while (library.find()) {
            Due.that(library.group(1) + " is allowed", LIBRARY.contains(library.group(1)));
        }
        methodLengths(text.split("\n"));
    }

    private static void methodLengths(String[] lines) {
        for (int first = 0; first < lines.length; first++) {
            String indent = lines[first].replaceAll("\\S.*", "");
            boolean begins = lines[first].endsWith(") {") && (indent.length() == 4 || indent.length() == 8)
                    && !lines[first].trim().matches("(if|for|while|switch|do|else)\\b.*");
            if (begins) {
                int last = first;
                while (!lines[last].equals(indent + "}")) {
                    last++;
                }
                Due.that(lines[first].trim() + " is short", last - first + 1 <= LONGEST_METHOD);
            }
        }
    }
}
