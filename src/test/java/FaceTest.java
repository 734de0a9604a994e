import java.io.IOException;
import java.lang.reflect.Constructor;
import java.lang.reflect.Field;
import java.lang.reflect.Method;
import java.lang.reflect.Modifier;
import java.nio.file.Files;
import java.nio.file.Path;
import java.util.Arrays;
import java.util.List;
import java.util.Set;
import java.util.TreeSet;

/** The face is the document's and no more; the source keeps to those rules of LANGUAGE.md that a look can tell. */
public final class FaceTest {
    private static final Path SOURCE = Path.of("src/main/java/RotaFathers.java");
    private static final Set<String> METHODS = new TreeSet<>(Arrays.asList(
        "int letter(int)", "int blank()", "int fault()", "int cave()", "int about(int,int)", "int as(int,int)",
        "int rota(int,int)", "int shift(int,int)", "int day()", "int best(int,int,int)", "int swaps()",
        "int found(int,int)", "int forget()", "int months(int,int,int)", "int image()", "int restore()",
        "int count(int)", "long digest()"));
    private static final Set<String> CONSTANTS = new TreeSet<>(Arrays.asList("NONE", "UNKNOWN", "OUTSIDE", "STATE", "FULL"));
    private static final int LONGEST_METHOD = 60;
    private static int wrong = 0;

    public static void main(String[] args) throws IOException {
        members();
        nestedClasses();
        source();
        System.out.println(wrong == 0 ? "the face is as it should be" : wrong + " faults");
        if (wrong != 0) {
            System.exit(1);
        }
    }

    private static void mustBe(boolean right, String what) {
        if (!right) {
            wrong++;
            System.out.println("fault: " + what);
        }
    }

    private static void members() {
        Class<?> c = RotaFathers.class;
        mustBe(c.getModifiers() == (Modifier.PUBLIC | Modifier.FINAL), "the class is public and final");
        Set<String> methods = new TreeSet<>();
        for (Method m : c.getDeclaredMethods()) {
            if (Modifier.isPublic(m.getModifiers())) {
                String parameters = Arrays.toString(m.getParameterTypes()).replaceAll("[\\[\\] ]", "");
                methods.add(m.getReturnType() + " " + m.getName() + "(" + parameters + ")");
            } else {
                mustBe(Modifier.isPrivate(m.getModifiers()), m + " is private");
                mustBe(!isPublicName(m.getName()), m + " has a name of its own");
            }
        }
        mustBe(methods.equals(METHODS), "public methods: " + methods);
        Set<String> constants = new TreeSet<>();
        for (Field f : c.getDeclaredFields()) {
            if (Modifier.isPublic(f.getModifiers())) {
                constants.add(f.getName());
                mustBe(f.getType() == int.class && Modifier.isFinal(f.getModifiers()), f + " is a constant");
            } else {
                mustBe(Modifier.isPrivate(f.getModifiers()), f + " is private");
            }
            mustBe(!Modifier.isStatic(f.getModifiers()) || Modifier.isFinal(f.getModifiers()), f + " is final");
        }
        mustBe(constants.equals(CONSTANTS), "public constants: " + constants);
        Constructor<?>[] made = c.getDeclaredConstructors();
        mustBe(made.length == 1 && made[0].getParameterCount() == 0, "one constructor");
    }

    private static boolean isPublicName(String name) {
        return METHODS.stream().anyMatch(m -> m.contains(" " + name + "("));
    }

    private static void nestedClasses() {
        Class<?>[] nested = RotaFathers.class.getDeclaredClasses();
        mustBe(nested.length <= 11, "some twelve classes at most");
        for (Class<?> n : nested) {
            mustBe(Modifier.isStatic(n.getModifiers()), n + " is static");
            mustBe(!Modifier.isPublic(n.getModifiers()) && !Modifier.isProtected(n.getModifiers()), n + " is not seen");
            for (Method m : n.getDeclaredMethods()) {
                mustBe(!isPublicName(m.getName()), m + " has a name of its own");
            }
        }
    }

    private static void source() throws IOException {
        List<String> lines = Files.readAllLines(SOURCE);
        int start = 0;
        for (int i = 0; i < lines.size(); i++) {
            String code = lines.get(i).replaceAll("//.*|^\\s*/?\\*.*", "");
            for (String word : new String[] {"import", "throw", "try", "catch", "assert", "synchronized", "package", "finally"}) {
                mustBe(!code.matches(".*\\b" + word + "\\b.*"), "no " + word + " in line " + (i + 1));
            }
            for (String sign : new String[] {"->", "::", "@", "\""}) {
                mustBe(!code.contains(sign), "no " + sign + " in line " + (i + 1));
            }
            mustBe(code.chars().allMatch(c -> c < 128), "plain signs in line " + (i + 1));
            if (code.matches("\\s+.*\\) \\{") && !code.matches("\\s+(if|for|while|switch|}).*")) {
                start = i;
            }
            mustBe(!code.matches("\\s+}") || i - start <= LONGEST_METHOD, "the method at line " + (start + 1) + " is short");
        }
    }
}
