import java.io.IOException;
import java.lang.reflect.Constructor;
import java.lang.reflect.Field;
import java.lang.reflect.Member;
import java.lang.reflect.Method;
import java.lang.reflect.Modifier;
import java.nio.file.Files;
import java.nio.file.Path;
import java.util.Arrays;
import java.util.List;
import java.util.Set;
import java.util.TreeSet;
import java.util.regex.Matcher;
import java.util.regex.Pattern;

/** The face of the document, and those rules of LANGUAGE.md that can be seen from the outside. */
public final class FaceTest {
    private static final List<String> FACE = List.of(
            "int act(int,int,int,int)", "boolean alp(int)", "int close(int)", "long count(int)",
            "int credit(int,int)", "int day(int,int)", "int entry(int,int)", "int feed(int,int,int,int,int)",
            "int grass(int,int)", "boolean height(int,int,int,int)", "int look(int,int,int,int)",
            "boolean milk(int,int)", "boolean milking(int)", "boolean move(int)", "int part(int,int)",
            "int rule(int)", "int rules(int)", "int sheep(int)", "int step(int)", "long told(int,int)",
            "int way(int,int)", "boolean work(int,int)");

    public static void main(String[] args) throws Exception {
        faceIsTheDocuments();
        namesOfTheFaceAreNotUsedAgain();
        classesInsideAreStatic();
        forbiddenWordsAreNotThere();
        noCallMakesAnObject();
        methodsAreShort();
        objectsShareNothing();
        Due.end();
    }

    private static void faceIsTheDocuments() throws Exception {
        Set<String> found = new TreeSet<>();
        for (Method m : FlockPass.class.getDeclaredMethods()) {
            if (!isPrivate(m)) {
                StringBuilder text = new StringBuilder(m.getReturnType() + " " + m.getName() + "(");
                for (Class<?> type : m.getParameterTypes()) {
                    text.append(text.charAt(text.length() - 1) == '(' ? "" : ",").append(type);
                }
                found.add(text.append(")").toString());
            }
        }
        Due.is("the face " + found, found.equals(new TreeSet<>(FACE)), true);
        for (Field f : FlockPass.class.getDeclaredFields()) {
            Due.is("field " + f.getName(), isPrivate(f) || f.getName().equals("NONE"), true);
        }
        Due.is("NONE", FlockPass.NONE, -1);
        Constructor<?>[] constructors = FlockPass.class.getDeclaredConstructors();
        Due.is("constructors", constructors.length, 1);
        Due.is("it is public", Modifier.isPublic(constructors[0].getModifiers()), true);
        Due.is("the class is final", Modifier.isFinal(FlockPass.class.getModifiers()), true);
    }

    private static void namesOfTheFaceAreNotUsedAgain() {
        Set<String> names = new TreeSet<>();
        FACE.forEach(f -> names.add(f.substring(f.indexOf(' ') + 1, f.indexOf('('))));
        for (Method m : FlockPass.class.getDeclaredMethods()) {
            Due.is("private " + m.getName(), isPrivate(m) && names.contains(m.getName()), false);
        }
        for (Class<?> inside : FlockPass.class.getDeclaredClasses()) {
            for (Method m : inside.getDeclaredMethods()) {
                Due.is(inside.getName() + "." + m.getName(), names.contains(m.getName()), false);
            }
        }
    }

    private static void classesInsideAreStatic() {
        Class<?>[] inside = FlockPass.class.getDeclaredClasses();
        Due.is("twelve classes at most", inside.length <= 11, true);
        for (Class<?> c : inside) {
            Due.is(c.getName() + " is static", Modifier.isStatic(c.getModifiers()), true);
            long fields = Arrays.stream(c.getDeclaredFields()).filter(f -> !Modifier.isStatic(f.getModifiers())).count();
            Due.is(c.getName() + " has few fields", fields <= 20, true);
            for (Method m : c.getDeclaredMethods()) {
                Due.is(m.getName() + " has few parameters", m.getParameterCount() <= 7, true);
            }
        }
    }

    private static String source() throws IOException {
        return Files.readString(Path.of("src/main/java/FlockPass.java"));
    }

    /** The source without its comments. */
    private static String code() throws IOException {
        return source().replaceAll("/\\*[\\s\\S]*?\\*/", "").replaceAll("//.*", "");
    }

    private static void forbiddenWordsAreNotThere() throws IOException {
        String code = code();
        String words = "\\b(throw|throws|try|catch|synchronized|assert|package|Random|Thread|equals|hashCode|toString"
                + "|nanoTime|currentTimeMillis|protected|\\w+Exact)\\b|->|::";
        Matcher m = Pattern.compile(words).matcher(code);
        Due.is("forbidden word", m.find(), false);
        for (String line : code.split("\n")) {
            boolean staticField = line.contains(" static ") && !line.contains("(") && !line.contains("class");
            Due.is("static field: " + line.strip(), staticField && !line.contains(" final "), false);
            boolean imports = line.startsWith("import ");
            Due.is("import: " + line, imports && !line.equals("import java.util.Arrays;"), false);
        }
        Due.is("signs are 1 to 127", source().chars().allMatch(c -> c > 0 && c < 128), true);
    }

    private static void noCallMakesAnObject() throws IOException {
        for (String line : code().split("\n")) {
            // Fields are final, so what is made for one is made once, with its object.
            boolean makes = line.matches(".*(\\bnew |clone\\(|copyOf|\\.of\\(|\"|Integer\\s+\\w).*");
            Due.is("made by a call: " + line.strip(), makes && !line.matches(" +(private )?final .* = new .*;"), false);
        }
    }

    private static void methodsAreShort() throws IOException {
        // From the head of a method to the brace that stands as far from the edge as the head.
        String method = "(?m)^( +)(?!if|for|while|switch)(\\w[\\w\\[\\] ]*)\\([^;{]*\\) \\{\\R([\\s\\S]*?)^\\1\\}";
        Matcher m = Pattern.compile(method).matcher(code());
        int methods = 0;
        while (m.find()) {
            methods++;
            Due.is(m.group(2) + " has few lines", m.group(3).lines().count() <= 60, true);
        }
        Due.is("the face and more was looked at", methods > FACE.size(), true);
    }

    private static void objectsShareNothing() {
        FlockPass x = new FlockPass();
        FlockPass y = new FlockPass();
        x.alp(4);
        x.sheep(3);
        Due.rules(x, "l1");
        x.feed(1, 1, 1, 1, 1);
        x.day(1, 50);
        Due.is("heights of another", y.count(2), 1);
        Due.is("sheep of another", y.count(6), 0);
        Due.is("rules of another", y.rule(0), 5);
        Due.is("tape of another", y.count(12), 0);
        Due.is("snow of another", y.count(4), 0);
    }

    private static boolean isPrivate(Member m) {
        return Modifier.isPrivate(m.getModifiers());
    }
}
