import java.lang.management.ManagementFactory;
import java.lang.reflect.Constructor;
import java.lang.reflect.Field;
import java.lang.reflect.Method;
import java.lang.reflect.Modifier;
import java.nio.file.Files;
import java.nio.file.Path;
import java.util.ArrayList;
import java.util.HashSet;
import java.util.List;
import java.util.Set;
import java.util.TreeSet;

/** The public face as the document writes it, what else a class may show, and the room that the calls take. */
public final class FaceTest {
    private static final String[] FACE = {
        "public int addShape(int,int,int,int) throws IllegalArgumentException,IllegalStateException,"
            + "UnsupportedOperationException",
        "public boolean setLocked(int,boolean) throws IndexOutOfBoundsException",
        "public int startOf(int,char) throws IndexOutOfBoundsException,IllegalArgumentException",
        "public int sizeOf(int,char) throws IndexOutOfBoundsException,IllegalArgumentException",
        "public int moveTo(int,int,int) throws IndexOutOfBoundsException,IllegalStateException,"
            + "IllegalArgumentException,UnsupportedOperationException",
        "public char moveReason(int,int,int) throws IndexOutOfBoundsException",
        "public int setText(int,int) throws IndexOutOfBoundsException,IllegalArgumentException",
        "public boolean fits(int) throws IndexOutOfBoundsException",
        "public int grow(int) throws IndexOutOfBoundsException,NoSuchElementException,IllegalStateException,"
            + "UnsupportedOperationException",
        "public char growReason(int) throws IndexOutOfBoundsException",
        "public int inTheWay(int) throws IndexOutOfBoundsException,NoSuchElementException",
        "public int addWish(char,int,int,int) throws IndexOutOfBoundsException,IllegalArgumentException,"
            + "IllegalStateException",
        "public int dropWish(int) throws NoSuchElementException",
        "public boolean isMet(int) throws NoSuchElementException",
        "public int strength(char) throws IllegalArgumentException",
        "public int snaps(int,char) throws IndexOutOfBoundsException,IllegalArgumentException",
        "public int bestStrength(char) throws IllegalArgumentException",
        "public int bestByAll(char) throws IllegalArgumentException",
        "public int tidyCost(char) throws IllegalArgumentException",
        "public int tidyStart(int,char) throws IndexOutOfBoundsException,IllegalArgumentException",
        "public int tidy(char) throws IllegalArgumentException",
        "public int evenCost(char) throws IllegalArgumentException,NoSuchElementException",
        "public int evenByAll(char) throws IllegalArgumentException,NoSuchElementException",
        "public int spread(char) throws IllegalArgumentException,NoSuchElementException",
        "public int guides(char) throws IllegalArgumentException",
        "public int guideAt(char,int) throws IllegalArgumentException,NoSuchElementException",
        "public int distance(int,int) throws IndexOutOfBoundsException,IllegalArgumentException",
        "public int groups(int) throws IllegalArgumentException",
        "public int groupsByLinks(int) throws IllegalArgumentException",
        "public int groupOf(int,int) throws IndexOutOfBoundsException,IllegalArgumentException",
        "public long moved()",
        "public float covered()",
        "public double meanDistance() throws ArithmeticException",
        "public boolean isSound()",
    };

    private static final Check CHECK = new Check();

    public static void main(String[] args) throws Exception {
        faceIsTheDocuments();
        nothingElseIsShown();
        String file = args.length > 0 ? args[0] : "src/main/java/SlideLayout.java";
        sourceKeepsToTheLibrary(file);
        methodsAreShort(file);
        callsMakeNothing();
        CHECK.close("FaceTest");
    }

    private static void faceIsTheDocuments() {
        Set<String> got = new TreeSet<>();
        for (Method method : SlideLayout.class.getDeclaredMethods()) {
            if (!Modifier.isPrivate(method.getModifiers())) {
                got.add(written(method));
            }
        }
        CHECK.compare("the face", new TreeSet<>(List.of(FACE)), got);
        Constructor<?>[] constructors = SlideLayout.class.getDeclaredConstructors();
        CHECK.compare("the constructors", 1, constructors.length);
        CHECK.compare("the constructor", "public SlideLayout()", constructors[0].toGenericString());
        CHECK.compare("the class", "public final", Modifier.toString(SlideLayout.class.getModifiers()));
    }

    private static String written(Method method) {
        return method.toGenericString().replace("java.lang.", "").replace("java.util.", "").replace("SlideLayout.", "");
    }

    private static void nothingElseIsShown() {
        Set<String> faceNames = new HashSet<>();
        for (Method method : SlideLayout.class.getDeclaredMethods()) {
            if (Modifier.isPublic(method.getModifiers())) {
                faceNames.add(method.getName());
            }
        }
        for (Field field : SlideLayout.class.getDeclaredFields()) {
            CHECK.compare("private: " + field, true, Modifier.isPrivate(field.getModifiers()));
        }
        List<Class<?>> classes = new ArrayList<>(List.of(SlideLayout.class.getDeclaredClasses()));
        CHECK.compare("classes inside", true, classes.size() <= 11);
        for (Class<?> inside : classes) {
            CHECK.compare("private static: " + inside, Modifier.PRIVATE | Modifier.STATIC,
                    inside.getModifiers() & (Modifier.PRIVATE | Modifier.STATIC));
        }
        classes.add(SlideLayout.class);
        for (Class<?> any : classes) {
            int fields = 0;
            for (Field field : any.getDeclaredFields()) {
                int modifiers = field.getModifiers();
                CHECK.compare("no static field that changes: " + field, false,
                        Modifier.isStatic(modifiers) && !Modifier.isFinal(modifiers));
                fields += Modifier.isStatic(modifiers) ? 0 : 1;
            }
            CHECK.compare("at most 20 fields: " + any, true, fields <= 20);
            for (Method method : any.getDeclaredMethods()) {
                CHECK.compare("no private method bears a name of the face: " + method, false,
                        !Modifier.isPublic(method.getModifiers()) && faceNames.contains(method.getName()));
                CHECK.compare("at most seven parameters: " + method, true, method.getParameterCount() <= 7);
            }
        }
    }

    private static void sourceKeepsToTheLibrary(String file) throws Exception {
        for (String line : Files.readAllLines(Path.of(file))) {
            String code = line.replaceAll("\"[^\"]*\"", "\"\"").trim();
            if (code.startsWith("*") || code.startsWith("/*") || code.startsWith("//")) {
                continue;
            }
            CHECK.compare("only one import: " + line, false,
                    code.startsWith("import") && !code.equals("import java.util.NoSuchElementException;"));
            for (String word : new String[] {"catch", "finally", "synchronized", "assert", "package", "->", "::",
                "System", "Thread", "instanceof", "double[]", "Exact("}) {
                CHECK.compare("no " + word + ": " + line, false, code.contains(word));
            }
            CHECK.compare("signs 1 to 127: " + line, true, line.chars().allMatch(sign -> sign < 128));
        }
    }

    /** A method begins and ends 4 signs from the edge, and 8 signs from it in a class inside. */
    private static void methodsAreShort(String file) throws Exception {
        String edge = "    ";
        int start = 0;
        int methods = 0;
        List<String> lines = Files.readAllLines(Path.of(file));
        for (int line = 0; line < lines.size(); line++) {
            String text = lines.get(line);
            if (text.matches(" {4}\\w.* class .*")) {
                edge = "        ";
            } else if (text.matches(edge + "\\w.*")) {
                start = line;
            } else if (text.equals(edge + "}")) {
                CHECK.compare("at most 60 lines: " + lines.get(start), true, line - start < 60);
                methods++;
            } else if (text.equals("    }")) {
                edge = "    ";
            }
        }
        CHECK.compare("the methods were found, as " + methods, true, methods > 100);
    }

    /** All rows are made with the object: 512 calls of the dearest kinds must not take more room by the call. */
    private static void callsMakeNothing() {
        SlideLayout x = new SlideLayout();
        x.addShape(0, 0, 10, 5);
        x.addShape(50, 20, 24, 5);
        x.addShape(101, 40, 38, 5);
        x.addShape(150, 60, 48, 5);
        x.addWish('l', 0, 1, 3);
        x.addWish('m', 1, 2, 3);
        useMuch(x, 20);
        com.sun.management.ThreadMXBean threads =
                (com.sun.management.ThreadMXBean) ManagementFactory.getThreadMXBean();
        long id = Thread.currentThread().getId();
        long before = threads.getThreadAllocatedBytes(id);
        useMuch(x, 100);
        long bytes = threads.getThreadAllocatedBytes(id) - before;
        CHECK.compare("1100 calls take less than 20000 bytes, but took " + bytes, true, bytes < 20000);
    }

    private static void useMuch(SlideLayout x, int rounds) {
        for (int round = 0; round < rounds; round++) {
            x.isSound();
            x.tidy('x');
            x.tidy('y');
            x.spread('x');
            x.spread('y');
            x.guides('x');
            x.snaps(0, 'x');
            x.groupOf(3, 40);
            x.meanDistance();
            x.moveTo(0, 0, round % 2);
            x.setText(0, 40);
        }
    }
}
