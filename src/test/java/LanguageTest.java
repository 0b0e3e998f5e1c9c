import java.io.IOException;
import java.lang.reflect.Constructor;
import java.lang.reflect.Field;
import java.lang.reflect.Method;
import java.lang.reflect.Modifier;
import java.nio.file.Files;
import java.nio.file.Path;
import java.util.ArrayList;
import java.util.List;
import java.util.Set;
import java.util.TreeSet;
import java.util.regex.Matcher;
import java.util.regex.Pattern;

/** The rules of ../shared/LANGUAGE.md that can be read off the source and the compiled class. */
public final class LanguageTest {
    private static final Check CHECK = new Check("LanguageTest");
    private static final Path SOURCE = Path.of("src/main/java/FiddlerDebts.java");
    private static final String FACE = "tune(1) length(1) owe(4) of(2) pay(2) funeral(1) terms(2) feed(5) end(1) row(0) "
        + "sung(0) law(0) fault(0) force(1) balance(1) richest(0) net(2) left(2) ring(2) cancel(1) best(4) play(3) "
        + "bands(2) wedding(2) divorce(0) free(1) dance(2) ahead(2) forget(0) orders(2) can(1) evenings(2) owed(2) "
        + "image(1) back(1) count(1) status(0)";

    private LanguageTest() {
    }

    public static void main(String[] args) throws IOException {
        face();
        classes();
        words(bare(Files.readString(SOURCE)));
        methodsAreShort(bare(Files.readString(SOURCE)));
        CHECK.finish();
    }

    private static void is(String what, boolean so) {
        CHECK.due(what, 1, so ? 1 : 0);
    }

    private static void face() {
        CHECK.about("the face");
        Set<String> found = new TreeSet<>();
        Set<String> names = new TreeSet<>();
        for (Method m : FiddlerDebts.class.getDeclaredMethods()) {
            if (Modifier.isPublic(m.getModifiers())) {
                found.add(m.getName() + "(" + m.getParameterCount() + ")");
                names.add(m.getName());
                is(m + " is an int's", m.getReturnType() == int.class && !Modifier.isStatic(m.getModifiers()));
            }
        }
        is("the methods " + found, found.equals(new TreeSet<>(List.of(FACE.split(" ")))));
        for (Class<?> c : all()) {
            for (Method m : c.getDeclaredMethods()) {
                boolean ofFace = c == FiddlerDebts.class && Modifier.isPublic(m.getModifiers());
                is(m + " has a name of its own", ofFace || !names.contains(m.getName()));
                is(m + " is private", ofFace || Modifier.isPrivate(m.getModifiers()));
                is(m + " takes seven at most", m.getParameterCount() <= 7);
            }
        }
        for (Field f : FiddlerDebts.class.getDeclaredFields()) {
            boolean constant = f.getName().equals("NONE") || f.getName().equals("NOTHING");
            is(f + " is seen as it may be", Modifier.isPrivate(f.getModifiers()) != constant);
        }
        Constructor<?>[] constructors = FiddlerDebts.class.getDeclaredConstructors();
        is("one constructor", constructors.length == 1 && Modifier.isPublic(constructors[0].getModifiers()));
        is("final", Modifier.isFinal(FiddlerDebts.class.getModifiers()));
    }

    private static List<Class<?>> all() {
        List<Class<?>> all = new ArrayList<>(List.of(FiddlerDebts.class.getDeclaredClasses()));
        all.add(FiddlerDebts.class);
        return all;
    }

    private static void classes() {
        CHECK.about("the classes");
        is("some twelve", all().size() <= 12);
        for (Class<?> c : all()) {
            is(c + " is static", c == FiddlerDebts.class || Modifier.isStatic(c.getModifiers()));
            int fields = 0;
            for (Field f : c.getDeclaredFields()) {
                if (Modifier.isStatic(f.getModifiers())) {
                    is(f + " is final", Modifier.isFinal(f.getModifiers()));
                    is(f + " is a number", f.getType().isPrimitive());
                } else {
                    fields++;
                }
            }
            is(c + " has some twenty fields", fields <= 20);
        }
    }

    /** The source without comments and without what stands in texts. */
    private static String bare(String source) {
        return source.replaceAll("(?s)/\\*.*?\\*/", "").replaceAll("\"[^\"]*\"", "\"\"").replaceAll("//[^\n]*", "");
    }

    private static void words(String source) {
        CHECK.about("the words");
        for (String word : List.of("throw", "throws", "try", "catch", "synchronized", "assert", "native", "transient",
            "volatile", "package", "protected", "Object", "System.out", "Exact", "equals", "hashCode", "toString",
            "->", "::", "\\?\\?", "@", "Exception")) {
            boolean sign = !Character.isLetter(word.charAt(0));
            is("no " + word, !Pattern.compile(sign ? word : "\\b" + word + "\\b").matcher(source).find());
        }
        Matcher imports = Pattern.compile("import ([^;]*);").matcher(source);
        while (imports.find()) {
            is("import " + imports.group(1), imports.group(1).equals("java.util.Arrays"));
        }
        is("no texts are joined by +", !Pattern.compile("\"\\s*\\+|\\+\\s*\"").matcher(source).find());
        Matcher library = Pattern.compile("\\b(Arrays|System|Integer|Long|Math)\\.(\\w+)").matcher(source);
        Set<String> allowed = Set.of("Arrays.fill", "Arrays.copyOf", "System.arraycopy", "Integer.bitCount", "Math.min",
            "Math.max");
        while (library.find()) {
            is(library.group(), allowed.contains(library.group()));
        }
        is("signs 1 to 127", source.chars().allMatch(c -> c >= 1 && c <= 127));
    }

    private static void methodsAreShort(String source) {
        CHECK.about("the methods");
        String[] lines = source.split("\n");
        int start = -1;
        String indent = "";
        for (int i = 0; i < lines.length; i++) {
            Matcher m = Pattern.compile("^( +)(public|private)[^=;]*\\(.*\\{$").matcher(lines[i]);
            if (m.find()) {
                start = i;
                indent = m.group(1);
            } else if (start >= 0 && lines[i].equals(indent + "}")) {
                is("short: " + lines[start].trim(), i - start <= 60);
                start = -1;
            }
        }
    }
}
