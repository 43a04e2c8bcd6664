import java.lang.reflect.Constructor;
import java.lang.reflect.Field;
import java.lang.reflect.Method;
import java.lang.reflect.Modifier;
import java.nio.file.Files;
import java.nio.file.Path;
import java.util.Arrays;
import java.util.Set;
import java.util.TreeSet;
import java.util.regex.Matcher;
import java.util.regex.Pattern;

/** The public face as the document has it, and what of LANGUAGE.md can be seen from outside or in the text. */
public final class FaceTest {
    private static final String[] FACE = {
        "helper 1", "grade 3", "duty 1", "out 1", "pause 2", "call 5", "rule 1", "prefer 1", "ring 2", "pass 3",
        "leave 1", "urge 1", "ticks 1", "wait 1", "who 1", "why 1", "within 1", "loss 2", "wanted 2", "want 2",
        "cover 1", "begins 1", "helperOf 2", "callOf 2", "count 1"};
    private static final String[] NOT_IN_THE_TEXT = {
        "\\bthrow\\b", "\\bthrows\\b", "\\btry\\b", "\\bcatch\\b", "\\bsynchronized\\b", "\\bassert\\b", "->", "::",
        "\\bimport\\b", "\\bpackage\\b", "Exact\\b", "\\bvar\\b", "\\bprotected\\b", "\\bvolatile\\b", "[^\\x00-\\x7f]"};
    private static final Set<String> LIBRARY = Set.of("Math.max", "Math.min", "Integer.bitCount", "System.arraycopy");
    private static int wrong = 0;

    public static void main(String[] args) throws Exception {
        face();
        classesInside();
        text(Files.readString(Path.of("src/main/java/CallRoom.java")));
        System.out.println(wrong == 0 ? "the face and the text are as they must be" : wrong + " things are wrong");
        if (wrong != 0) System.exit(1);
    }

    private static void holds(boolean right, String what) {
        if (!right) {
            wrong++;
            System.out.println("not so: " + what);
        }
    }

    private static void face() {
        Class<?> room = CallRoom.class;
        holds(Modifier.isPublic(room.getModifiers()) && Modifier.isFinal(room.getModifiers()), "public and final");
        Constructor<?>[] makers = room.getDeclaredConstructors();
        holds(makers.length == 1 && makers[0].getParameterCount() == 0, "one constructor");
        holds(Modifier.isPublic(makers[0].getModifiers()), "a public constructor");
        Set<String> open = new TreeSet<>();
        Set<String> hidden = new TreeSet<>();
        for (Method m : room.getDeclaredMethods()) {
            holds(Modifier.isPublic(m.getModifiers()) || Modifier.isPrivate(m.getModifiers()), m + " public or private");
            if (Modifier.isPublic(m.getModifiers())) {
                open.add(m.getName() + " " + m.getParameterCount());
                holds(m.getReturnType() == int.class && !Modifier.isStatic(m.getModifiers()), m + " answers an int");
                holds(Arrays.stream(m.getParameterTypes()).allMatch(t -> t == int.class), m + " takes ints");
            } else {
                hidden.add(m.getName());
            }
        }
        holds(open.equals(new TreeSet<>(Arrays.asList(FACE))), "the methods of the face, but " + open);
        for (String method : FACE) {
            holds(!hidden.contains(method.split(" ")[0]), "no private method named " + method);
        }
        for (Field f : room.getDeclaredFields()) {
            holds(Modifier.isPrivate(f.getModifiers()), f + " is private");
            holds(!Modifier.isStatic(f.getModifiers()) || Modifier.isFinal(f.getModifiers()), f + " is final");
        }
    }

    private static void classesInside() {
        Class<?>[] inside = CallRoom.class.getDeclaredClasses();
        holds(inside.length <= 11, "twelve classes at most");
        for (Class<?> c : inside) {
            holds(Modifier.isStatic(c.getModifiers()), c + " is static");
            holds(c.getDeclaredFields().length <= 20, c + " has twenty fields at most");
            for (Method m : c.getDeclaredMethods()) {
                holds(m.getParameterCount() <= 7, m + " takes seven at most");
                holds(Arrays.stream(FACE).noneMatch(f -> f.split(" ")[0].equals(m.getName())), m + " has its own name");
            }
        }
    }

    private static void text(String source) {
        String code = source.replaceAll("(?s)/\\*.*?\\*/", "").replaceAll("//[^\n]*", "");
        for (String sign : NOT_IN_THE_TEXT) {
            holds(!Pattern.compile(sign).matcher(code).find(), "no " + sign + " in the text");
        }
        Matcher library = Pattern.compile("\\b(Math|Integer|Long|System|Arrays|String|List|Character)\\.\\w+").matcher(code);
        while (library.find()) {
            holds(LIBRARY.contains(library.group()), library.group() + " is in the library");
        }
        for (String line : code.split("\n")) {
            boolean makes = line.matches(".*\\bnew\\b.*");
            holds(!makes || line.matches("\\s+(final \\S+ )?\\w+ = new [^;]*;"), "only constructors make rows: " + line);
        }
        int begun = 0;
        String[] lines = source.split("\n");
        for (int i = 0; i < lines.length; i++) {
            if (lines[i].matches("\\s+(public|private|int|void|boolean|long|static)\\b.*\\(.*\\{\\s*")) begun = i;
            if (lines[i].matches("(    |        )}")) holds(i - begun <= 60, "sixty lines at most, at line " + (i + 1));
        }
    }
}
