import java.io.IOException;
import java.lang.reflect.Constructor;
import java.lang.reflect.Field;
import java.lang.reflect.Member;
import java.lang.reflect.Method;
import java.lang.reflect.Modifier;
import java.nio.file.Files;
import java.nio.file.Path;
import java.util.Arrays;
import java.util.List;
import java.util.Set;
import java.util.TreeSet;
import java.util.regex.Matcher;
import java.util.regex.Pattern;

/** The rules of ../shared/LANGUAGE.md that can be seen from the class's face and the words of its file. */
public final class LanguageTest {
    private static final Checks checks = new Checks("LanguageTest");
    private static final List<String> FACE = List.of("int sheet(int,int)", "int lay(int,int,int)", "int tear(int)",
        "int copy(int,int,int,int,int)", "int text(int,int,int,int)", "int told(int,int)", "int mark(int,int)",
        "int withdraw(int)", "int feature(int,int)", "int counts(int,int)", "int rate(int,int)", "int hand(int,int)",
        "int mean(int)", "int sort(int)", "int far(int,int)", "int from(int,int)", "int nearest(int)", "int place(int,int)",
        "int trial(int)", "int taken(int,int)", "int impostors(int,int,int,long)", "int part(int,int,int,int,int)",
        "int window(int)", "int tree()", "int join(int,int)", "int shuffle(int,int,int)", "long asked()", "int count(int)",
        "int finding()", "int findings(int)", "long digest()");
    private static final Set<String> CONSTANTS = Set.of("BAD", "FULL", "FINDING", "STATE", "NONE");
    private static final String[] NOT_IN_IT = {"throw", "try", "catch", "synchronized", "assert", "import", "package",
        "protected", "float", "double", "Object", "Exception", "String", "Random", "currentTimeMillis", "nanoTime",
        "Thread", "equals", "hashCode", "toString", "->", "::", "instanceof", "native", "volatile"};

    public static void main(String[] args) throws IOException {
        face();
        namesInside();
        words();
        checks.end();
    }

    private static void face() {
        Class<?> type = WhoseHand.class;
        checks.holds("the class is public and final", Modifier.isPublic(type.getModifiers()) && Modifier.isFinal(type.getModifiers()));
        checks.due("the class has no other above it", type.getSuperclass() == Object.class ? 0 : 1, 0);
        Set<String> methods = new TreeSet<>();
        for (Method method : type.getDeclaredMethods()) {
            if (Modifier.isPublic(method.getModifiers())) methods.add(shown(method));
            else checks.holds("private: " + method, Modifier.isPrivate(method.getModifiers()));
        }
        checks.holds("the methods are those of the document: " + methods, methods.equals(new TreeSet<>(FACE)));
        Set<String> constants = new TreeSet<>();
        for (Field field : type.getDeclaredFields()) {
            if (Modifier.isPublic(field.getModifiers())) constants.add(field.getName());
            else checks.holds("private: " + field, Modifier.isPrivate(field.getModifiers()));
            if (Modifier.isStatic(field.getModifiers())) checks.holds("final: " + field, Modifier.isFinal(field.getModifiers()));
        }
        checks.holds("the constants are those of the document: " + constants, constants.equals(CONSTANTS));
        Constructor<?>[] constructors = type.getDeclaredConstructors();
        checks.due("constructors", constructors.length, 1);
        checks.holds("the constructor is public", Modifier.isPublic(constructors[0].getModifiers()));
        checks.due("its parameters", constructors[0].getParameterCount(), 0);
        checks.due("BAD", WhoseHand.BAD, -1);
        checks.due("FULL", WhoseHand.FULL, -2);
        checks.due("FINDING", WhoseHand.FINDING, -3);
        checks.due("STATE", WhoseHand.STATE, -4);
        checks.due("NONE", WhoseHand.NONE, -9);
    }

    private static String shown(Method method) {
        StringBuilder types = new StringBuilder();
        for (Class<?> type : method.getParameterTypes()) types.append(types.length() == 0 ? "" : ",").append(type.getName());
        return method.getReturnType().getName() + " " + method.getName() + "(" + types + ")";
    }

    private static void namesInside() {
        Set<String> open = new TreeSet<>();
        for (String method : FACE) open.add(method.replaceAll(".* (\\w+)\\(.*", "$1"));
        Class<?>[] inside = WhoseHand.class.getDeclaredClasses();
        checks.holds("some twelve classes at most", inside.length + 1 <= 12);
        for (Member member : WhoseHand.class.getDeclaredMethods()) {
            if (!Modifier.isPublic(member.getModifiers())) checks.holds("no public name: " + member, !open.contains(member.getName()));
        }
        for (Class<?> type : inside) {
            checks.holds("static: " + type, Modifier.isStatic(type.getModifiers()));
            checks.holds("some twenty fields at most: " + type, type.getDeclaredFields().length <= 20);
            for (Method method : type.getDeclaredMethods()) {
                checks.holds("no public name: " + method, !open.contains(method.getName()));
                checks.holds("seven parameters at most: " + method, method.getParameterCount() <= 7);
            }
        }
    }

    private static void words() throws IOException {
        String source = Files.readString(Path.of("src/main/java/WhoseHand.java"));
        checks.holds("signs of the source are 1 to 127", source.chars().allMatch(c -> c > 0 && c < 128));
        String code = source.replaceAll("(?s)/\\*.*?\\*/", " ").replaceAll("//[^\n]*", " ");
        for (String word : NOT_IN_IT) checks.holds("not in the source: " + word, !code.contains(word));
        Matcher library = Pattern.compile("\\b(Math|Integer|Long|System|Arrays)\\.(\\w+)").matcher(code);
        List<String> allowed = Arrays.asList("Math.abs", "Math.min", "Math.max", "System.arraycopy");
        while (library.find()) checks.holds("of the library: " + library.group(), allowed.contains(library.group()));
    }
}
