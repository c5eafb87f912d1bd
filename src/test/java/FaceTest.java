import java.io.IOException;
import java.lang.reflect.Field;
import java.lang.reflect.Method;
import java.lang.reflect.Modifier;
import java.nio.file.Files;
import java.nio.file.Path;
import java.util.Set;
import java.util.TreeSet;

/** The public face as the document tells it, and the rules of LANGUAGE.md that can be seen from outside. */
public final class FaceTest {
    private static final String FACE = "fills(ii) filling(i) waiters(i) diner(iii) ofDiner(ii) change(iii) become(ii)"
        + " as(ii) feed(Ji) text(i) law(iiii) steps(i) loose(i) next() then(iii) first(i) never() sham(ii) alike(ii)"
        + " whose(ii) rank(i) harm(ii) cramps(ii) enough(ii) meals(i) odds(iii) seed(i) voice(iii) trace(i) sheet(iii)"
        + " put(iii) move(iiiii) shams(i) judge(i) image() restore() tell(i) check() count(i) told(i)";

    private static int passed = 0;
    private static int failed = 0;

    private static void due(String what, boolean holds) {
        if (holds) {
            passed++;
            return;
        }
        failed++;
        System.out.println("FaceTest: " + what);
    }

    private static String told(Method m) {
        StringBuilder s = new StringBuilder(m.getName()).append('(');
        for (Class<?> p : m.getParameterTypes()) s.append(p == int.class ? "i" : p == long.class ? "J" : "?");
        return s.append(')').toString();
    }

    private static void testFace() {
        Class<?> type = LooksServed.class;
        Set<String> open = new TreeSet<>();
        Set<String> openNames = new TreeSet<>();
        boolean isPlain = true;
        boolean isRestPrivate = true;
        for (Method m : type.getDeclaredMethods()) {
            if (Modifier.isPublic(m.getModifiers())) {
                open.add(told(m));
                openNames.add(m.getName());
                isPlain &= m.getReturnType() == int.class && !Modifier.isStatic(m.getModifiers());
            } else {
                isRestPrivate &= Modifier.isPrivate(m.getModifiers());
            }
        }
        due("the face is " + open, open.equals(new TreeSet<>(Set.of(FACE.split(" ")))));
        due("each answers an int", isPlain);
        due("the other methods are private", isRestPrivate);
        due("public and final", Modifier.isPublic(type.getModifiers()) && Modifier.isFinal(type.getModifiers()));
        due("one public constructor", type.getConstructors().length == 1 && type.getDeclaredConstructors().length == 1);
        testNames(type, openNames);
        for (Class<?> inner : type.getDeclaredClasses()) {
            int m = inner.getModifiers();
            due(inner + " is static and not open", Modifier.isStatic(m) && !Modifier.isPublic(m) && !Modifier.isProtected(m));
            testNames(inner, openNames);
        }
    }

    private static void testNames(Class<?> type, Set<String> openNames) {
        for (Method m : type.getDeclaredMethods()) {
            boolean isOpen = Modifier.isPublic(m.getModifiers());
            due(m + " bears the name of a public one", isOpen || !openNames.contains(m.getName()));
        }
        int fields = 0;
        for (Field f : type.getDeclaredFields()) {
            boolean isStatic = Modifier.isStatic(f.getModifiers());
            due(f + " is static and not final", !isStatic || Modifier.isFinal(f.getModifiers()));
            if (type == LooksServed.class) due(f + " is open", Modifier.isPrivate(f.getModifiers()));
            fields += isStatic ? 0 : 1;
        }
        due(type + " has " + fields + " fields", fields <= 20);
    }

    private static void testSource(Path file) throws IOException {
        String source = Files.readString(file);
        String code = source.replaceAll("(?s)/\\*.*?\\*/", " ").replaceAll("//[^\n]*", " ");
        for (String word : new String[] {"throw", "throws", "try", "catch", "synchronized", "assert", "package",
            "float", "double", "System\\.out", "System\\.nano\\w*", "System\\.current\\w*", "Random", "Thread",
            "hashCode", "toString", "\\w+Exact"}) {
            due("the source says " + word, !code.matches("(?s).*\\b" + word + "\\b.*"));
        }
        due("a lambda or a method reference", !code.contains("->") && !code.contains("::"));
        due("imports", code.replaceAll("import java\\.util\\.Arrays;", "").indexOf("import ") < 0);
        due("signs beyond 127", source.chars().allMatch(c -> c < 128));
        int longest = 0;
        int length = 0;
        for (String line : source.split("\n")) {
            if (line.matches(" {4}( {4})?[a-z].*\\) \\{")) length = 0;
            length++;
            if (line.matches(" {4}( {4})?\\}")) longest = Math.max(longest, length);
        }
        due("a method of " + longest + " lines", longest <= 60);
    }

    public static void main(String[] args) throws IOException {
        testFace();
        testSource(Path.of(args.length > 0 ? args[0] : "src/main/java/LooksServed.java"));
        System.out.println("FaceTest: " + passed + " passed, " + failed + " failed");
        if (failed > 0) System.exit(1);
    }
}
