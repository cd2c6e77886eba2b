import java.lang.reflect.Constructor;
import java.lang.reflect.Field;
import java.lang.reflect.Method;
import java.lang.reflect.Modifier;
import java.nio.file.Files;
import java.nio.file.Path;
import java.util.Arrays;
import java.util.HashSet;
import java.util.List;
import java.util.Set;
import java.util.TreeSet;
import java.util.regex.Matcher;
import java.util.regex.Pattern;

/** The public face, and what of LANGUAGE.md can be seen from the source and the compiled class. */
public final class FaceTest {
    private static final List<String> METHODS = List.of(
            "int addPath(int, int, int, int, int)", "int setWeight(int, int)", "int setPoint(int, int)",
            "int removePoint(int)", "int set(int, int)", "int shot(int, int, int, int)", "int close()", "int swap()",
            "int forget(int)", "int append(int)", "int clearText()", "int faultPosition()", "int run()", "int undo()",
            "int save(int)", "int restore(int)", "int path(int, int)", "int told(int, int)", "long sound(int)",
            "int factor(int)", "int round(int, int)", "long volume(int)", "int statistic(int)", "int trust(int)",
            "int total(int)", "int velocity(int, int, int)", "int ideal(int, int, int, boolean)", "int wouldBe()",
            "int wouldBecome(int)", "int skipsNeeded()");
    private static final List<String> FIELDS = List.of("BAD_INDEX -2000000001", "BAD_VALUE -2000000002",
            "NOT_POSSIBLE -2000000003", "FULL -2000000004", "NONE -2000000005", "MISSING 0", "WEAK 1", "OUTLIER 2",
            "CORRECTED 3", "GOOD 4");
    private static final List<String> LIBRARY = List.of("Math.abs(", "Math.min(", "Math.max(", "System.arraycopy(");

    public static void main(String[] args) throws Exception {
        Class<?> face = TransitMeter.class;
        Check.holds("the class is public and final",
                Modifier.isPublic(face.getModifiers()) && Modifier.isFinal(face.getModifiers()));
        methods(face);
        fields(face);
        Constructor<?>[] constructors = face.getDeclaredConstructors();
        Check.holds("one public constructor without arguments", constructors.length == 1
                && constructors[0].getParameterCount() == 0 && Modifier.isPublic(constructors[0].getModifiers()));
        classesInside(face);
        source(Files.readString(Path.of("src/main/java/TransitMeter.java")));
        Check.finish();
    }

    private static void methods(Class<?> face) {
        Set<String> found = new TreeSet<>();
        for (Method method : face.getDeclaredMethods()) {
            if (Modifier.isPrivate(method.getModifiers())) {
                continue;
            }
            StringBuilder text = new StringBuilder(method.getReturnType() + " " + method.getName() + "(");
            for (Class<?> type : method.getParameterTypes()) {
                text.append(text.charAt(text.length() - 1) == '(' ? "" : ", ").append(type);
            }
            found.add(text.append(')').toString());
            Check.holds("public: " + method, Modifier.isPublic(method.getModifiers()));
        }
        Check.holds("the methods are those of the document", found.equals(new TreeSet<>(METHODS)));
    }

    private static void fields(Class<?> face) throws Exception {
        Set<String> found = new HashSet<>();
        for (Field field : face.getDeclaredFields()) {
            int is = field.getModifiers();
            if (!Modifier.isPrivate(is)) {
                Check.holds(field + " is a constant",
                        Modifier.isPublic(is) && Modifier.isStatic(is) && Modifier.isFinal(is));
                found.add(field.getName() + " " + field.getInt(null));
            }
            Check.holds(field + ", static, is final", !Modifier.isStatic(is) || Modifier.isFinal(is));
        }
        Check.holds("the constants are those of the document", found.equals(new HashSet<>(FIELDS)));
    }

    private static void classesInside(Class<?> face) {
        Set<String> publicNames = new HashSet<>();
        for (String method : METHODS) {
            publicNames.add(method.substring(method.indexOf(' ') + 1, method.indexOf('(')));
        }
        for (Method method : face.getDeclaredMethods()) {
            Check.holds("no private method named as a public one: " + method,
                    !Modifier.isPrivate(method.getModifiers()) || !publicNames.contains(method.getName()));
            Check.holds("at most seven parameters: " + method, method.getParameterCount() <= 7);
        }
        Class<?>[] inside = face.getDeclaredClasses();
        Check.holds("at most twelve classes", inside.length + 1 <= 12);
        for (Class<?> each : inside) {
            int is = each.getModifiers();
            Check.holds(each + " is private and static", Modifier.isPrivate(is) && Modifier.isStatic(is));
            long instanceFields = Arrays.stream(each.getDeclaredFields())
                    .filter(field -> !Modifier.isStatic(field.getModifiers())).count();
            Check.holds(each + " has at most twenty fields", instanceFields <= 20);
            for (Method method : each.getDeclaredMethods()) {
                Check.holds("no method inside named as a public one: " + method,
                        !publicNames.contains(method.getName()));
                Check.holds("at most seven parameters: " + method, method.getParameterCount() <= 7);
            }
        }
    }

    /** Rule 4 lists what may be used of the library; constants of its classes are not among it. */
    private static void library(String code) {
        Set<String> own = new HashSet<>(List.of("TransitMeter"));
        Matcher classes = Pattern.compile("\\bclass (\\w+)").matcher(code);
        while (classes.find()) {
            own.add(classes.group(1));
        }
        Matcher names = Pattern.compile("(?<![\\w.])([A-Z]\\w*[a-z]\\w*)(\\s*\\.\\s*\\w+\\s*\\(?)?").matcher(code);
        while (names.find()) {
            String use = names.group(2) == null ? "" : names.group(2).replaceAll("\\s", "");
            Check.holds("of the library only what is listed: " + names.group(1) + use,
                    own.contains(names.group(1)) || LIBRARY.contains(names.group(1) + use));
        }
    }

    private static void source(String whole) {
        String code = whole.replaceAll("(?s)/\\*.*?\\*/", "").replaceAll("//[^\n]*", "");
        Check.holds("signs 1 to 127 alone", whole.chars().allMatch(sign -> sign >= 1 && sign <= 127));
        library(code);
        for (String word : List.of("throw", "throws", "try", "catch", "finally", "synchronized", "assert", "import",
                "package", "var", "System\\.out", "equals", "hashCode", "toString", "Object", "Thread",
                "while\\s*\\(true", "volatile", "transient", "native", "strictfp", "default\\s*->", "instanceof")) {
            Check.holds("without " + word, !Pattern.compile("\\b" + word + "\\b").matcher(code).find());
        }
        Check.holds("without lambdas and method references", !code.contains("->") && !code.contains("::"));
        int inMethod = 0;
        for (String line : code.split("\n", -1)) {
            boolean begins = line.matches("( {4}| {8})[a-zA-Z].*\\) \\{");
            inMethod = begins ? 1 : inMethod + 1;
            boolean ends = line.equals("    }") || line.equals("        }");
            Check.holds("a method of at most sixty lines, up to: " + line, !ends || inMethod <= 60);
            inMethod = ends ? 0 : inMethod;
        }
    }
}
