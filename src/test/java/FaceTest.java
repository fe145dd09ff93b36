import java.io.IOException;
import java.lang.reflect.Constructor;
import java.lang.reflect.Field;
import java.lang.reflect.Method;
import java.lang.reflect.Modifier;
import java.nio.file.Files;
import java.nio.file.Path;
import java.util.Set;
import java.util.TreeSet;

/** The document's face and nothing else, and what of LANGUAGE.md can be seen by a program. */
public final class FaceTest {
    private static final String[] METHODS = {"type(int)", "clear()", "tunnel()", "builds(int)", "follows(int)",
        "wishes(int,int,int)", "rules(int,int)", "undo()", "ring(int,int)", "wish(int,int)", "worst(int)",
        "plan(int,int)", "trying(int)", "sees(int,int)", "forget()", "unseen(int)", "odds(int,int,int)",
        "keep(int)", "back(int)", "count(int)"};
    private static final String[] BANNED_WORDS = {"throw", "throws", "try", "catch", "synchronized", "assert", "import",
        "package", "protected", "native", "volatile", "Object", "equals", "hashCode", "toString", "System", "Exception"};

    public static void main(String[] args) throws IOException {
        constants();
        members();
        classesInside();
        source();
        Check.end("FaceTest");
    }

    private static void constants() {
        Check.due("BAD", -1, RingSteer.BAD);
        Check.due("STATE", -2, RingSteer.STATE);
        Check.due("FULL", -3, RingSteer.FULL);
        Check.due("NONE", -9, RingSteer.NONE);
        Check.due("NO", -1000000, RingSteer.NO);
    }

    private static void members() {
        int modifiers = RingSteer.class.getModifiers();
        Check.holds("the class is public and final", Modifier.isPublic(modifiers) && Modifier.isFinal(modifiers));
        Set<String> open = new TreeSet<>();
        for (Method method : RingSteer.class.getDeclaredMethods()) {
            if (!Modifier.isPrivate(method.getModifiers())) {
                Check.holds(method + " is public, an object's, and answers int", Modifier.isPublic(method.getModifiers())
                    && !Modifier.isStatic(method.getModifiers()) && method.getReturnType() == int.class);
                open.add(nameOf(method));
            }
        }
        Check.holds("the methods are those of the document: " + open, open.equals(Set.of(METHODS)));
        Set<String> fields = new TreeSet<>();
        for (Field field : RingSteer.class.getDeclaredFields()) {
            if (!Modifier.isPrivate(field.getModifiers())) {
                fields.add(field.getName());
            }
        }
        Check.holds("the constants are those of the document: " + fields,
            fields.equals(Set.of("BAD", "STATE", "FULL", "NONE", "NO")));
        Constructor<?>[] made = RingSteer.class.getDeclaredConstructors();
        Check.holds("one constructor, public, without parameters", made.length == 1
            && Modifier.isPublic(made[0].getModifiers()) && made[0].getParameterCount() == 0);
    }

    private static String nameOf(Method method) {
        StringBuilder name = new StringBuilder(method.getName()).append('(');
        for (Class<?> type : method.getParameterTypes()) {
            name.append(name.charAt(name.length() - 1) == '(' ? "" : ",").append(type.getName());
        }
        return name.append(')').toString();
    }

    private static void classesInside() {
        Class<?>[] inside = RingSteer.class.getDeclaredClasses();
        Check.holds("at most some twelve classes", inside.length <= 12);
        Set<String> names = new TreeSet<>();
        for (String method : METHODS) {
            names.add(method.substring(0, method.indexOf('(')));
        }
        for (Class<?> one : inside) {
            Check.holds(one + " is static", Modifier.isStatic(one.getModifiers()));
            Check.holds(one + " is not public", !Modifier.isPublic(one.getModifiers()));
            Check.holds(one + " has at most some twenty fields", one.getDeclaredFields().length <= 20);
            dueMethods(one, names);
            dueStatics(one);
        }
        dueMethods(RingSteer.class, Set.of());
        dueStatics(RingSteer.class);
    }

    private static void dueMethods(Class<?> one, Set<String> taken) {
        for (Method method : one.getDeclaredMethods()) {
            Check.holds(method + " has at most seven parameters", method.getParameterCount() <= 7);
            Check.holds(method + " has a name of its own", !taken.contains(method.getName()));
        }
    }

    private static void dueStatics(Class<?> one) {
        for (Field field : one.getDeclaredFields()) {
            int modifiers = field.getModifiers();
            Check.holds(field + " is final, if it is static", !Modifier.isStatic(modifiers) || Modifier.isFinal(modifiers));
        }
    }

    private static void source() throws IOException {
        String path = System.getProperty("source", "src/main/java/RingSteer.java");
        String text = Files.readString(Path.of(path));
        String code = text.replaceAll("(?s)/\\*.*?\\*/", "").replaceAll("//[^\n]*", "");
        for (String word : BANNED_WORDS) {
            Check.holds("the code has no '" + word + "'", !code.matches("(?s).*\\b" + word + "\\b.*"));
        }
        Check.holds("no lambda, no method reference", !code.contains("->") && !code.contains("::"));
        Check.holds("signs are plain", text.chars().allMatch(c -> c == '\n' || c >= ' ' && c < 127));
        for (String body : code.split("\n    (    )?\\}\n")) {
            Check.holds("a method has at most some sixty lines", body.lines().filter(l -> !l.isBlank()).count() <= 60);
        }
    }
}
