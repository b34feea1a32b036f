import java.lang.reflect.Constructor;
import java.lang.reflect.Field;
import java.lang.reflect.Method;
import java.lang.reflect.Modifier;
import java.nio.file.Files;
import java.nio.file.Path;
import java.util.ArrayList;
import java.util.Arrays;
import java.util.List;
import java.util.TreeSet;
import java.util.regex.Matcher;
import java.util.regex.Pattern;

/** The document's face, and those rules of LANGUAGE.md that can be seen by looking at the source. */
public final class LanguageTest {
    private static final String[] METHODS = {
        "int person(int)", "int field(int)", "int deed(int,int,int,int,int)", "int as(int,int)", "int about(int,int)",
        "int enter(int,int,int,int)", "int leaf(int,boolean)", "int knew(int,int)", "int lives(int,int,int)",
        "int letters(long)", "int blank()", "int fault()", "int law()", "int search(int,int,int,int)",
        "int held(int,int)", "int prevails(int,int,int)", "int first(int,int)", "int whose(int,int,int)",
        "int debts(int,int,int)", "int rings(int,int)", "int moves(int,int)", "int hangs(int,int,int)",
        "int wild(int)", "int lost(int,int)", "int safe(int)", "int image()", "int restore()", "int count(int)",
        "long digest()"};
    private static final String[] CONSTANTS = {"NONE = -1", "UNKNOWN = -101", "OUTSIDE = -102", "STATE = -103", "FULL = -104"};
    private static final String[] FORBIDDEN = {
        "\\bthrow\\b", "\\bthrows\\b", "\\btry\\b", "\\bcatch\\b", "\\bfinally\\b", "\\bsynchronized\\b", "\\bassert\\b",
        "->", "::", "\\bprotected\\b", "\\bimport\\b", "\\bpackage\\b", "\\bSystem\\b", "\\bMath\\.\\w*Exact\\b",
        "\\brecord\\b", "\\bvar\\b", "\\bstatic\\s*\\{", "\\bdouble\\b", "\\bfloat\\b", "\\.equals\\(", "\\bString\\b"};
    private static int wrong = 0;

    private static void check(boolean holds, String what) {
        if (!holds) {
            wrong++;
            System.out.println("not so: " + what);
        }
    }

    private static String signature(Method method) {
        List<String> types = new ArrayList<>();
        for (Class<?> type : method.getParameterTypes()) {
            types.add(type.getName());
        }
        return method.getReturnType().getName() + " " + method.getName() + "(" + String.join(",", types) + ")";
    }

    private static void checkFace() throws IllegalAccessException {
        TreeSet<String> open = new TreeSet<>();
        TreeSet<String> openNames = new TreeSet<>();
        for (Method method : OughtKnown.class.getDeclaredMethods()) {
            if (!Modifier.isPrivate(method.getModifiers())) {
                check(Modifier.isPublic(method.getModifiers()), method + " is public or private");
                check(!Modifier.isStatic(method.getModifiers()), method + " is not static");
                open.add(signature(method));
                openNames.add(method.getName());
            }
        }
        check(open.equals(new TreeSet<>(Arrays.asList(METHODS))), "the methods are the document's: " + open);
        TreeSet<String> constants = new TreeSet<>();
        for (Field field : OughtKnown.class.getDeclaredFields()) {
            if (!Modifier.isPrivate(field.getModifiers())) {
                check(field.getType() == int.class && Modifier.isStatic(field.getModifiers())
                    && Modifier.isFinal(field.getModifiers()) && Modifier.isPublic(field.getModifiers()), field + " is a constant");
                constants.add(field.getName() + " = " + field.getInt(null));
            }
        }
        check(constants.equals(new TreeSet<>(Arrays.asList(CONSTANTS))), "the constants are the document's: " + constants);
        Constructor<?>[] makers = OughtKnown.class.getDeclaredConstructors();
        check(makers.length == 1 && Modifier.isPublic(makers[0].getModifiers()) && makers[0].getParameterCount() == 0,
            "one public constructor without parameters");
        check(Modifier.isFinal(OughtKnown.class.getModifiers()) && Modifier.isPublic(OughtKnown.class.getModifiers()),
            "the class is public and final");
        checkInside(OughtKnown.class, openNames);
        for (Class<?> inside : OughtKnown.class.getDeclaredClasses()) {
            check(Modifier.isStatic(inside.getModifiers()), inside + " is static");
            checkInside(inside, openNames);
        }
        check(OughtKnown.class.getDeclaredClasses().length < 12, "at most some twelve classes");
    }

    private static void checkInside(Class<?> type, TreeSet<String> openNames) {
        for (Method method : type.getDeclaredMethods()) {
            check(Modifier.isPublic(method.getModifiers()) || !openNames.contains(method.getName()),
                method + " does not bear the name of a public one");
            check(method.getParameterCount() <= 7, method + " has at most seven parameters");
        }
        int fields = 0;
        for (Field field : type.getDeclaredFields()) {
            boolean isStatic = Modifier.isStatic(field.getModifiers());
            check(!isStatic || Modifier.isFinal(field.getModifiers()), field + " is final");
            fields += isStatic ? 0 : 1;
        }
        check(fields <= 20, type + " has at most twenty fields");
    }

    private static void checkSource() throws Exception {
        String source = Files.readString(Path.of("src/main/java/OughtKnown.java"));
        check(source.chars().allMatch(sign -> sign < 127), "the source is plain ASCII");
        String code = source.replaceAll("(?s)/\\*.*?\\*/", " ").replaceAll("//[^\\n]*", " ");
        for (String forbidden : FORBIDDEN) {
            Matcher found = Pattern.compile(forbidden).matcher(code);
            check(!found.find(), "the source has no " + forbidden);
        }
        int start = 0;
        String[] lines = code.split("\\n");
        for (int i = 0; i < lines.length; i++) {
            if (lines[i].matches(" {4,8}(public|private)[^=;]*\\) \\{")) {
                start = i;
            }
            check(!lines[i].matches(" {4,8}\\}") || i - start <= 60 || lines[start].isBlank(), "line " + i + " ends a short method");
        }
    }

    public static void main(String[] args) throws Exception {
        checkFace();
        checkSource();
        System.out.println(wrong == 0 ? "the face and the rules hold" : wrong + " do not hold");
        if (wrong != 0) {
            System.exit(1);
        }
    }
}
