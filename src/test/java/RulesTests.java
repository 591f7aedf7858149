import java.io.IOException;
import java.lang.reflect.Array;
import java.lang.reflect.Constructor;
import java.lang.reflect.Field;
import java.lang.reflect.Method;
import java.lang.reflect.Modifier;
import java.nio.file.Files;
import java.nio.file.Path;
import java.util.Arrays;
import java.util.IdentityHashMap;
import java.util.Map;
import java.util.Set;
import java.util.TreeSet;
import java.util.regex.Matcher;
import java.util.regex.Pattern;

/** Checks the face of the class against the document's, and the source against the rules that a text search can see. */
public final class RulesTests {
    private static int checks = 0;
    private static int wrong = 0;

    // The face of the document, each method with its exceptions in their order.
    private static final String[] FACE = {
        "int append(int) IllegalArgumentException IllegalStateException",
        "int load() IllegalArgumentException IllegalStateException",
        "int faultPosition()",
        "int statements()",
        "int setMode(int) IllegalArgumentException",
        "int setCount(int) IllegalArgumentException",
        "int setElement(int int int) IndexOutOfBoundsException IllegalArgumentException",
        "int fill(int int) IndexOutOfBoundsException",
        "int element(int int) IndexOutOfBoundsException",
        "int setInitial(int int) IndexOutOfBoundsException IllegalArgumentException",
        "int kind(int) IndexOutOfBoundsException",
        "int operator(int) IndexOutOfBoundsException UnsupportedOperationException",
        "int terms(int) IndexOutOfBoundsException UnsupportedOperationException",
        "int depends(int) IndexOutOfBoundsException",
        "int nodes(int) IndexOutOfBoundsException",
        "int height(int) IndexOutOfBoundsException",
        "int open(int) IndexOutOfBoundsException",
        "boolean hasNext() IllegalStateException",
        "int next() IllegalStateException NoSuchElementException",
        "boolean isParallel()",
        "boolean isExact(int) IndexOutOfBoundsException",
        "int execute(int int) IllegalArgumentException UnsupportedOperationException IllegalStateException",
        "int result(int) IndexOutOfBoundsException IllegalStateException",
        "float resultFloat(int) IndexOutOfBoundsException IllegalStateException",
        "double difference(int) IndexOutOfBoundsException IllegalStateException UnsupportedOperationException",
        "int cost(int int) IllegalArgumentException IllegalStateException",
        "int cheapest()",
        "void save()",
        "void restore() IllegalStateException",
    };

    private static final String[] REFUSED = {
        "->", "::", "@", "\\btry\\b", "\\bcatch\\b", "\\bfinally\\b", "\\bsynchronized\\b", "\\bassert\\b",
        "\\bpublic static\\b", "\\bprotected\\b", "\\bpackage\\b", "static final (float|double)\\b", "static \\{",
        "\\bSystem\\.(?!arraycopy)", "\\bMath\\.(?!min|max)", "\\bvar\\b", "\\bhashCode\\b", "\\btoString\\b",
    };

    private static final int MAX_OBJECTS = 150;
    private static final int MAX_ELEMENTS = 8000;
    private static final int MAX_METHOD_LINES = 60;

    public static void main(String[] args) throws IOException, ReflectiveOperationException {
        checkFace();
        checkNested();
        checkRoom();
        String source = Files.readString(Path.of("src/main/java/ReductionFinder.java"));
        checkSource(source);
        checkMethods(source);
        System.out.println("RulesTests: " + checks + " checks, " + wrong + " wrong");
        if (wrong != 0) {
            System.exit(1);
        }
    }

    private static void check(boolean good, String what) {
        checks++;
        if (!good) {
            wrong++;
            System.out.println(what);
        }
    }

    private static void checkFace() {
        Class<?> face = ReductionFinder.class;
        check(Modifier.isPublic(face.getModifiers()) && Modifier.isFinal(face.getModifiers()), "the class is not public and final");
        Set<String> found = new TreeSet<>();
        for (Method method : face.getDeclaredMethods()) {
            if (Modifier.isPrivate(method.getModifiers())) {
                continue;
            }
            check(Modifier.isPublic(method.getModifiers()), method + " is neither public nor private");
            StringBuilder text = new StringBuilder(method.getReturnType().getName() + " " + method.getName() + "(");
            for (int k = 0; k < method.getParameterCount(); k++) {
                text.append(k == 0 ? "" : " ").append(method.getParameterTypes()[k].getName());
            }
            text.append(")");
            for (Class<?> thrown : method.getExceptionTypes()) {
                text.append(" ").append(thrown.getSimpleName());
            }
            found.add(text.toString());
        }
        Set<String> due = new TreeSet<>(Arrays.asList(FACE));
        check(found.equals(due), "the face is " + found + ", due is " + due);
        Constructor<?>[] constructors = face.getDeclaredConstructors();
        check(constructors.length == 1 && constructors[0].getParameterCount() == 0
            && Modifier.isPublic(constructors[0].getModifiers()), "the constructor is not the document's");
        for (Field field : face.getDeclaredFields()) {
            check(Modifier.isPrivate(field.getModifiers()), field + " is not private");
        }
    }

    private static void checkNested() {
        Set<String> names = new TreeSet<>();
        for (String line : FACE) {
            names.add(line.substring(line.indexOf(' ') + 1, line.indexOf('(')));
        }
        Class<?>[] nested = ReductionFinder.class.getDeclaredClasses();
        check(nested.length < 12, "there are too many classes");
        for (Class<?> own : nested) {
            check(Modifier.isStatic(own.getModifiers()) && !Modifier.isPublic(own.getModifiers()), own + " is not static or is public");
            for (Method method : own.getDeclaredMethods()) {
                check(!names.contains(method.getName()), method + " bears the name of a public method");
                check(method.getParameterCount() <= 7, method + " has too many parameters");
            }
            checkFields(own);
        }
        checkFields(ReductionFinder.class);
        for (Method method : ReductionFinder.class.getDeclaredMethods()) {
            boolean hidden = Modifier.isPrivate(method.getModifiers());
            check(!hidden || !names.contains(method.getName()), method + " bears the name of a public method");
        }
    }

    private static void checkFields(Class<?> own) {
        int count = 0;
        for (Field field : own.getDeclaredFields()) {
            if (Modifier.isStatic(field.getModifiers())) {
                check(Modifier.isFinal(field.getModifiers()), field + " is static and not final");
            } else {
                count++;
            }
        }
        check(count <= 20, own + " has too many fields");
    }

    /** All objects live in one room, so that what a finder is made of is counted; its calls make no more. */
    private static void checkRoom() throws ReflectiveOperationException {
        Map<Object, Integer> sizes = new IdentityHashMap<>();
        count(new ReductionFinder(), sizes);
        int elements = 0;
        for (int size : sizes.values()) {
            elements += size;
        }
        check(sizes.size() <= MAX_OBJECTS, "a finder has " + sizes.size() + " objects");
        check(elements <= MAX_ELEMENTS, "a finder has " + elements + " fields and elements");
    }

    private static void count(Object object, Map<Object, Integer> sizes) throws ReflectiveOperationException {
        if (object == null || sizes.containsKey(object)) {
            return;
        }
        Class<?> type = object.getClass();
        if (type.isArray()) {
            sizes.put(object, Array.getLength(object));
            for (int at = 0; at < Array.getLength(object) && !type.getComponentType().isPrimitive(); at++) {
                count(Array.get(object, at), sizes);
            }
            return;
        }
        int fields = 0;
        sizes.put(object, 0);
        for (Class<?> own = type; own != Object.class; own = own.getSuperclass()) {
            for (Field field : own.getDeclaredFields()) {
                if (Modifier.isStatic(field.getModifiers())) {
                    continue;
                }
                fields++;
                field.setAccessible(true);
                if (!field.getType().isPrimitive()) {
                    count(field.get(object), sizes);
                }
            }
        }
        sizes.put(object, fields);
    }

    private static void checkMethods(String source) {
        String[] lines = source.split("\n");
        String begin = "(    |        )(?!for|if|while|switch|private static final class|private abstract)\\w.*[({,)].*";
        for (int at = 0; at < lines.length; at++) {
            String line = lines[at];
            boolean making = line.contains("new ") && !line.contains("throw new ") && !line.trim().startsWith("//");
            boolean inConstructor = line.contains("private final ") || line.contains("programs[slot] = new Program()");
            check(!making || inConstructor, "line " + (at + 1) + " makes an object: " + line.trim());
            if (!line.matches(begin) || !line.endsWith("{")) {
                continue;
            }
            String close = line.replaceAll("\\S.*", "") + "}";
            int end = at;
            while (end < lines.length && !lines[end].equals(close)) {
                end++;
            }
            check(end - at < MAX_METHOD_LINES, "the method of line " + (at + 1) + " has " + (end - at) + " lines");
        }
    }

    private static void checkSource(String source) {
        String code = source.replaceAll("(?s)/\\*.*?\\*/", "").replaceAll("//[^\n]*", "");
        for (String refused : REFUSED) {
            check(!Pattern.compile(refused).matcher(code).find(), "the source has " + refused);
        }
        Matcher imports = Pattern.compile("import ([^;]*);").matcher(code);
        while (imports.find()) {
            check(imports.group(1).equals("java.util.NoSuchElementException"), "the source imports " + imports.group(1));
        }
        Matcher thrown = Pattern.compile("throw ([^;]*);").matcher(code);
        while (thrown.find()) {
            check(thrown.group(1).matches("new \\w+Exception\\(\"[^\"]*\"\\)"), "the source throws " + thrown.group(1));
        }
        for (int at = 0; at < source.length(); at++) {
            if (source.charAt(at) > 126) {
                check(false, "the source has a sign beyond 126");
            }
        }
    }
}
