import java.io.IOException;
import java.lang.reflect.Constructor;
import java.lang.reflect.Field;
import java.lang.reflect.Method;
import java.lang.reflect.Modifier;
import java.nio.charset.StandardCharsets;
import java.nio.file.Files;
import java.nio.file.Path;
import java.util.Arrays;
import java.util.Set;
import java.util.TreeSet;

/**
 * The face of LakePlant (what the document lists and nothing else can be seen), and those rules of LANGUAGE.md that
 * can be told by looking at names and words. It is run from the project's folder.
 */
public final class FaceTest {
    private static final String[] METHODS = {"set(int,int)", "price(int,int)", "inflow(int,int)", "plan(int,int)",
        "contract(int,int,int,int)", "drop(int)", "adopt()", "hour(int,int)", "ofContract(int,int)", "day(int)",
        "troubled(int)", "count(int)", "best()", "bestPlan(int)", "worth(int)", "highest()", "put(long)", "wipe()",
        "fault()", "carryOut()", "undo()", "save(int)", "restore(int)"};
    private static final String[] CONSTANTS = {"NO_SUCH=-1", "BAD_VALUE=-2", "BAD_TEXT=-3", "TOO_MANY=-4",
        "NOT_POSSIBLE=-5", "NONE=-6", "PUMP=0", "FALL=1", "LOSS=2", "YIELD=3", "FLOW=4", "LOW=5", "HIGH=6", "BEGIN=7",
        "END=8", "DRY=9"};
    private static final String[] NO_WORDS = {"throw", "throws", "try", "catch", "finally", "synchronized", "assert",
        "native", "volatile", "transient", "import", "package", "Object", "equals", "hashCode", "toString", "System.out"};
    private static int wrong = 0;

    private static void complain(String what) {
        wrong++;
        System.out.println(what);
    }

    private static void due(String what, Object got, Object want) {
        if (!got.equals(want)) {
            complain(what + " is " + got + ", due is " + want);
        }
    }

    private static String headOf(Method m) {
        StringBuilder head = new StringBuilder(m.getName()).append('(');
        for (Class<?> type : m.getParameterTypes()) {
            head.append(head.charAt(head.length() - 1) == '(' ? "" : ",").append(type.getName());
        }
        return head.append(')').toString();
    }

    private static void face() throws IllegalAccessException {
        due("the class", Modifier.toString(LakePlant.class.getModifiers()), "public final");
        Set<String> methods = new TreeSet<>();
        for (Method m : LakePlant.class.getDeclaredMethods()) {
            if (!Modifier.isPrivate(m.getModifiers())) {
                methods.add(headOf(m));
                due("the answer of " + m.getName(), m.getReturnType(), int.class);
                due("how " + m.getName() + " is declared", Modifier.toString(m.getModifiers()), "public");
            }
        }
        due("the methods", methods, new TreeSet<>(Arrays.asList(METHODS)));
        Set<String> constants = new TreeSet<>();
        for (Field f : LakePlant.class.getDeclaredFields()) {
            if (!Modifier.isPrivate(f.getModifiers())) {
                due("how " + f.getName() + " is declared", Modifier.toString(f.getModifiers()), "public static final");
                due("the type of " + f.getName(), f.getType(), int.class);
                constants.add(f.getName() + "=" + f.getInt(null));
            }
        }
        due("the constants", constants, new TreeSet<>(Arrays.asList(CONSTANTS)));
        Constructor<?>[] constructors = LakePlant.class.getDeclaredConstructors();
        due("how many constructors", constructors.length, 1);
        due("the parameters of the constructor", constructors[0].getParameterCount(), 0);
        due("how it is declared", Modifier.toString(constructors[0].getModifiers()), "public");
    }

    private static void namesAndFields(Class<?> type, Set<String> faceNames) {
        int fields = 0;
        for (Field f : type.getDeclaredFields()) {
            boolean isStatic = Modifier.isStatic(f.getModifiers());
            fields += isStatic ? 0 : 1;
            if (isStatic && !Modifier.isFinal(f.getModifiers())) {
                complain(type.getName() + "." + f.getName() + " is static and not final");
            }
        }
        if (fields > 20) {
            complain(type.getName() + " has " + fields + " fields");
        }
        for (Method m : type.getDeclaredMethods()) {
            if (m.getParameterCount() > 7) {
                complain(type.getName() + "." + m.getName() + " takes more than seven parameters");
            }
            if (faceNames.contains(m.getName()) && !Modifier.isPublic(m.getModifiers())) {
                complain(type.getName() + "." + m.getName() + " bears the name of a public method");
            }
        }
    }

    private static void classesInside() {
        Set<String> faceNames = new TreeSet<>();
        for (String method : METHODS) {
            faceNames.add(method.substring(0, method.indexOf('(')));
        }
        namesAndFields(LakePlant.class, faceNames);
        Class<?>[] inside = LakePlant.class.getDeclaredClasses();
        if (inside.length > 11) {
            complain("there are " + (inside.length + 1) + " classes");
        }
        for (Class<?> type : inside) {
            namesAndFields(type, faceNames);
            int how = type.getModifiers();
            if (!Modifier.isStatic(how) || Modifier.isPublic(how) || Modifier.isProtected(how)) {
                complain(type.getName() + " has to be static, and private or package-visible");
            }
        }
    }

    private static void words() throws IOException {
        String source = Files.readString(Path.of("src/main/java/LakePlant.java"), StandardCharsets.ISO_8859_1);
        String code = source.replaceAll("(?s)/\\*.*?\\*/", " ").replaceAll("//[^\n]*", " ");
        for (String word : NO_WORDS) {
            if (code.matches("(?s).*\\b" + word.replace(".", "\\.") + "\\b.*")) {
                complain("LakePlant.java has the word " + word);
            }
        }
        for (String sign : new String[] {"->", "::", "\""}) {
            if (code.contains(sign)) {
                complain("LakePlant.java has " + sign);
            }
        }
        for (String line : code.split("\n")) {
            if (line.matches(".*\\bnew\\b.*") && !line.trim().startsWith("private final ")) {
                complain("LakePlant.java makes something outside of its fields: " + line.trim());
            }
        }
        for (int i = 0; i < source.length(); i++) {
            if (source.charAt(i) > 126) {
                complain("LakePlant.java has a character above 126 at " + i);
            }
        }
    }

    public static void main(String[] args) throws IllegalAccessException, IOException {
        face();
        classesInside();
        words();
        System.out.println(wrong == 0 ? "the face is as due" : wrong + " things are not as due");
        if (wrong != 0) {
            System.exit(1);
        }
    }
}
