import java.io.IOException;
import java.lang.reflect.Field;
import java.lang.reflect.Method;
import java.lang.reflect.Modifier;
import java.nio.file.Files;
import java.nio.file.Path;
import java.util.Arrays;
import java.util.List;
import java.util.Set;
import java.util.TreeSet;
import java.util.regex.Matcher;
import java.util.regex.Pattern;
import java.util.stream.Collectors;

/** The public face of the document, and the rules of LANGUAGE.md that can be looked up in the source. */
public final class FaceTest {
    private static final String METHODS = "int row 2, int lay 3, int at 2, int tear 1, int copy 5, int mean 1, "
        + "int text 2, int put 3, int fault 1, int town 1, int bearer 2, int mark 2, int purse 2, int snow 2, "
        + "int asks 2, int beside 1, int send 4, int sell 2, int days 1, int where 1, int letter 2, int can 1, "
        + "int undo 1, int keep 1, int on 1, int cheapest 2, int soonest 2, int comes 1, int bars 1, int why 1, "
        + "int needs 1, int lend 1, int block 1, int worth 3, int bundle 1, int post 1, int fake 3, int gain 1, "
        + "int had 2, int sure 2, int first 3, int luck 2, int asked 0, long upper 0, long lower 0, int count 1, "
        + "int finding 0, int findings 1, long digest 0";
    private static final List<Class<?>> LIBRARY = List.of(int.class, long.class, boolean.class, byte.class, char.class,
        String.class);

    public static void main(String[] args) throws IOException {
        methods();
        fields();
        classesInside();
        source();
        faceOfTheDocument();
        Due.end("FaceTest");
    }

    private static void methods() {
        Set<String> wanted = new TreeSet<>(List.of(METHODS.split(", ")));
        Set<String> open = Arrays.stream(DearLetters.class.getDeclaredMethods())
            .filter(m -> !Modifier.isPrivate(m.getModifiers()))
            .map(m -> m.getReturnType() + " " + m.getName() + " " + m.getParameterCount())
            .collect(Collectors.toCollection(TreeSet::new));
        Due.is("the face is the document's: " + open, open.equals(wanted) ? 1 : 0, 1);
        Set<String> names = wanted.stream().map(s -> s.split(" ")[1]).collect(Collectors.toSet());
        for (Class<?> c : classes()) {
            for (Method m : c.getDeclaredMethods()) {
                boolean twin = names.contains(m.getName()) && !Modifier.isPublic(m.getModifiers());
                Due.is(c + " " + m.getName() + " bears the name of a public method", twin ? 1 : 0, 0);
                Due.is(m.getName() + " has at most seven parameters", Math.max(7, m.getParameterCount()), 7);
            }
        }
    }

    private static void fields() {
        int[] constants = {DearLetters.BAD, DearLetters.FULL, DearLetters.FINDING, DearLetters.STATE,
            DearLetters.SPENT, DearLetters.NONE};
        Due.is("the constants", Arrays.equals(constants, new int[] {-1, -2, -3, -4, -6, -9}) ? 1 : 0, 1);
        int open = 0;
        for (Field f : DearLetters.class.getDeclaredFields()) {
            open += Modifier.isPrivate(f.getModifiers()) ? 0 : 1;
        }
        Due.is("no other open field", open, constants.length);
        for (Class<?> c : classes()) {
            long own = Arrays.stream(c.getDeclaredFields()).filter(f -> !Modifier.isStatic(f.getModifiers())).count();
            Due.is(c + " has some twenty fields at most", Math.max(20, own), 20);
            for (Field f : c.getDeclaredFields()) {
                boolean isStatic = Modifier.isStatic(f.getModifiers());
                Due.is(f + " is final, if static", isStatic && !Modifier.isFinal(f.getModifiers()) ? 1 : 0, 0);
                Class<?> type = f.getType().isArray() ? f.getType().getComponentType() : f.getType();
                boolean known = LIBRARY.contains(type) || type.getName().startsWith("DearLetters$");
                Due.is(f + " is of a known type", known ? 1 : 0, 1);
            }
        }
    }

    private static List<Class<?>> classes() {
        List<Class<?>> all = new java.util.ArrayList<>(List.of(DearLetters.class.getDeclaredClasses()));
        all.add(DearLetters.class);
        return all;
    }

    private static void classesInside() {
        Due.is("some twelve classes", Math.max(12, classes().size()), 12);
        for (Class<?> c : DearLetters.class.getDeclaredClasses()) {
            Due.is(c + " is static", Modifier.isStatic(c.getModifiers()) ? 1 : 0, 1);
            Due.is(c + " is not open", Modifier.isPublic(c.getModifiers()) ? 1 : 0, 0);
        }
    }

    private static void source() throws IOException {
        String code = Files.readString(Path.of("src/main/java/DearLetters.java"))
            .replaceAll("(?s)/\\*.*?\\*/", "").replaceAll("//[^\n]*", "");
        for (String word : List.of("throw", "throws", "try", "catch", "synchronized", "assert", "package", "yield")) {
            Due.is("no " + word, Pattern.compile("\\b" + word + "\\b").matcher(code).find() ? 1 : 0, 0);
        }
        for (String sign : List.of("->", "::", "Exact(", "@", "System.in", "System.out", "nanoTime", "\"")) {
            Due.is("no " + sign, code.contains(sign) ? 1 : 0, 0);
        }
        Matcher imports = Pattern.compile("import ([^;]+);").matcher(code);
        while (imports.find()) {
            Due.is("import of " + imports.group(1), imports.group(1).equals("java.util.Arrays") ? 1 : 0, 1);
        }
        Matcher made = Pattern.compile("(?m)^.*\\bnew \\w+.*$").matcher(code);
        while (made.find()) {
            boolean inConstructor = made.group().contains("final") || made.group().matches(" +\\w+\\[\\w\\] = new .*");
            Due.is("made in a constructor: " + made.group().strip(), inConstructor ? 1 : 0, 1);
        }
        methodsAreShort(code.split("\n"));
    }

    private static void methodsAreShort(String[] lines) {
        int start = 0;
        for (int i = 0; i < lines.length; i++) {
            if (lines[i].matches(" {4,8}[\\w\\[\\] ]+\\([^;]*\\) \\{")) {
                start = i;
            }
            if (lines[i].matches(" {4}\\}| {8}\\}")) {
                Due.is("lines of " + lines[start].strip(), Math.max(60, i - start), 60);
                start = i;
            }
        }
    }

    /** Each line of the document's face stands in the source, in the same order and with the same names. */
    private static void faceOfTheDocument() throws IOException {
        Path document = Path.of("../shared/DOC.md");
        if (!Files.exists(document)) {
            return;
        }
        Matcher face = Pattern.compile("(?s)```java\n(.*?)```").matcher(Files.readString(document));
        Due.is("the document has a face", face.find() ? 1 : 0, 1);
        List<String> wanted = face.group(1).lines().filter(line -> line.contains("public"))
            .map(line -> line.replaceAll(" \\{$|;$", "")).toList();
        List<String> open = Files.readAllLines(Path.of("src/main/java/DearLetters.java")).stream()
            .filter(line -> line.contains("public")).map(line -> line.replaceAll(" \\{$|;$", "")).toList();
        Due.is("lines of the face", open.size(), wanted.size());
        for (int i = 0; i < Math.min(open.size(), wanted.size()); i++) {
            Due.is("'" + open.get(i) + "' is '" + wanted.get(i) + "'", open.get(i).equals(wanted.get(i)) ? 1 : 0, 1);
        }
    }
}
