import java.io.IOException;
import java.lang.reflect.Constructor;
import java.lang.reflect.Field;
import java.lang.reflect.Method;
import java.lang.reflect.Modifier;
import java.nio.file.Files;
import java.nio.file.Path;
import java.util.Arrays;
import java.util.Set;
import java.util.TreeSet;
import java.util.regex.Matcher;
import java.util.regex.Pattern;

/** The public face is the document's, and the source keeps to the rules that can be seen in its text. */
public final class FaceTest {
    private static final Due DUE = new Due("FaceTest");
    private static final String SOURCE = "src/main/java/HouseWorkers.java";
    private static final Set<String> FACE = new TreeSet<>(Arrays.asList(
        "put/2", "question/3", "writer/4", "reason/2", "stream/0", "turn/1", "run/1", "cancel/1",
        "close/0", "told/2", "ended/2", "cell/2", "count/1"));

    public static void main(String[] args) throws IOException {
        publicFace();
        nestedClasses();
        sourceRules();
        DUE.close();
    }

    private static void publicFace() {
        Class<?> c = HouseWorkers.class;
        DUE.holds("the class is public and final", Modifier.isPublic(c.getModifiers()) && Modifier.isFinal(c.getModifiers()));
        Set<String> open = new TreeSet<>();
        for (Method m : c.getDeclaredMethods()) {
            if (Modifier.isPrivate(m.getModifiers())) {
                DUE.holds("no private method bears a public name: " + m.getName(),
                    FACE.stream().noneMatch(f -> f.startsWith(m.getName() + "/")));
                continue;
            }
            DUE.holds("public, of the object, answers an int: " + m.getName(),
                Modifier.isPublic(m.getModifiers()) && !Modifier.isStatic(m.getModifiers()) && m.getReturnType() == int.class);
            DUE.holds("takes ints: " + m.getName(), Arrays.stream(m.getParameterTypes()).allMatch(p -> p == int.class));
            open.add(m.getName() + "/" + m.getParameterCount());
        }
        DUE.holds("the methods are " + open, open.equals(FACE));
        Set<String> fields = new TreeSet<>();
        for (Field f : c.getDeclaredFields()) {
            if (Modifier.isStatic(f.getModifiers())) {
                DUE.holds("final: " + f.getName(), Modifier.isFinal(f.getModifiers()));
            }
            if (!Modifier.isPrivate(f.getModifiers())) {
                fields.add(f.getName());
            }
        }
        DUE.holds("the constants are " + fields, fields.equals(new TreeSet<>(Arrays.asList("BAD", "NO", "FULL"))));
        Constructor<?>[] made = c.getDeclaredConstructors();
        DUE.is("constructors", 1, made.length);
        DUE.holds("which is public, without arguments", Modifier.isPublic(made[0].getModifiers()) && made[0].getParameterCount() == 0);
    }

    private static void nestedClasses() {
        Class<?>[] inside = HouseWorkers.class.getDeclaredClasses();
        DUE.holds("at most twelve classes", inside.length + 1 <= 12);
        for (Class<?> c : inside) {
            int m = c.getModifiers();
            DUE.holds("static, neither public nor protected: " + c.getName(),
                Modifier.isStatic(m) && !Modifier.isPublic(m) && !Modifier.isProtected(m));
            DUE.holds("at most twenty fields: " + c.getName(), c.getDeclaredFields().length <= 20);
            for (Method method : c.getDeclaredMethods()) {
                DUE.holds("at most seven parameters: " + method.getName(), method.getParameterCount() <= 7);
            }
        }
    }

    private static void sourceRules() throws IOException {
        String source = Files.readString(Path.of(SOURCE));
        DUE.holds("signs up to 127", source.chars().allMatch(s -> s < 128));
        String code = source.replaceAll("(?s)/\\*.*?\\*/", "").replaceAll("//[^\n]*", "");
        for (String word : new String[] {"throw", "throws", "try", "catch", "finally", "synchronized", "assert", "package",
            "volatile", "native", "Thread", "System", "Object", "HashMap", "hashCode", "toString", "protected"}) {
            DUE.holds("no " + word, !Pattern.compile("\\b" + word + "\\b").matcher(code).find());
        }
        DUE.holds("no lambda, no method reference", !code.contains("->") && !code.contains("::"));
        Matcher imports = Pattern.compile("import ([^;]*);").matcher(code);
        while (imports.find()) {
            DUE.holds("import " + imports.group(1), imports.group(1).equals("java.util.ArrayList"));
        }
        int open = 0;
        int deepest = 0;
        for (char sign : code.toCharArray()) {
            open += sign == '{' ? 1 : sign == '}' ? -1 : 0;
            deepest = Math.max(deepest, open);
        }
        DUE.is("braces close", 0, open);
        DUE.holds("no deep nesting", deepest <= 5);
    }
}
