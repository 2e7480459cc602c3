import java.io.IOException;
import java.lang.reflect.Constructor;
import java.lang.reflect.Field;
import java.lang.reflect.Method;
import java.lang.reflect.Modifier;
import java.nio.charset.StandardCharsets;
import java.nio.file.Files;
import java.nio.file.Path;
import java.util.Arrays;
import java.util.HashSet;
import java.util.List;
import java.util.Set;
import java.util.TreeSet;

/** The class shows the document's face and nothing else (LANGUAGE.md, rules 1, 5 and 11). */
public final class TestFace {
    private static final Due DUE = new Due();
    private static final String[] FACE = {
        "int inn(int,int)", "int rule(int)", "int say(int)", "int wipe()", "int fault()", "int wins(int)",
        "int weight(int,int)", "int fool(int,int)", "long worth(int,int,int)", "int best(int)",
        "long mean(int,int,int)", "long nobody(int)", "int rest(int,int)", "long gap(int,int)",
        "int friends(int,int)", "long league(int,int)", "int spy(int)", "long spied(int,int)", "int steps(int)",
        "int late(int,int)", "long prize(int,int,int)", "int seen(int,int,int)", "int forget()", "int fits(int)",
        "int could(int)", "int year(int,int,int)", "int image(int)", "int restore(int)", "int told(int)"
    };
    private static final String[] CONSTANTS = {"NONE", "UNKNOWN", "OUTSIDE", "STATE", "FULL", "NO", "LOST"};

    public static void main(String[] args) throws IOException {
        asTheDocumentWritesIt();
        int modifiers = LeastAlone.class.getModifiers();
        DUE.holds("public and final", Modifier.isPublic(modifiers) && Modifier.isFinal(modifiers));
        methods();
        fields();
        constructors();
        inside();
        DUE.end("TestFace");
    }

    /** Line by line, with the names of the parameters: the source's public lines are the document's, in its order. */
    private static void asTheDocumentWritesIt() throws IOException {
        String document = Files.readString(Path.of("../shared/DOC.md"), StandardCharsets.UTF_8);
        int from = document.indexOf("```java", document.indexOf("## The public face"));
        String face = document.substring(from, document.indexOf("```", from + 3));
        String source = Files.readString(Path.of("src/main/java/LeastAlone.java"), StandardCharsets.UTF_8);
        List<String> due = publicLines(face);
        List<String> got = publicLines(source);
        DUE.holds("the document shows 2 lines of constants, 1 constructor, 29 methods, the class", due.size() == 33);
        DUE.is("public lines", got.size(), due.size());
        for (int i = 0; i < due.size() && i < got.size(); i++) {
            DUE.holds(got.get(i) + " stands for " + due.get(i), got.get(i).equals(due.get(i)));
        }
    }

    private static List<String> publicLines(String text) {
        return text.lines().map(String::strip).filter(line -> line.startsWith("public "))
                .map(line -> line.replaceAll("\\s*[{;]$", "")).toList();
    }

    private static String name(Method method) {
        StringBuilder text = new StringBuilder();
        text.append(method.getReturnType().getSimpleName()).append(' ').append(method.getName()).append('(');
        for (Class<?> type : method.getParameterTypes()) {
            text.append(text.charAt(text.length() - 1) == '(' ? "" : ",").append(type.getSimpleName());
        }
        return text.append(')').toString();
    }

    private static void methods() {
        Set<String> shown = new TreeSet<>();
        for (Method method : LeastAlone.class.getDeclaredMethods()) {
            if (Modifier.isPublic(method.getModifiers())) {
                shown.add(name(method));
            } else {
                DUE.holds(name(method) + " is private", Modifier.isPrivate(method.getModifiers()));
                DUE.holds(name(method) + " bears a name of its own", !faceNames().contains(method.getName()));
                DUE.holds(name(method) + " takes few", method.getParameterCount() <= 7);
            }
        }
        DUE.holds("the public methods: " + shown, shown.equals(new TreeSet<>(Arrays.asList(FACE))));
    }

    private static void fields() {
        Set<String> shown = new TreeSet<>();
        for (Field field : LeastAlone.class.getDeclaredFields()) {
            int m = field.getModifiers();
            DUE.holds(field + " is final, if static", !Modifier.isStatic(m) || Modifier.isFinal(m));
            if (Modifier.isPublic(m)) {
                shown.add(field.getName());
                Class<?> type = field.getName().equals("LOST") ? long.class : int.class;
                DUE.holds(field + " is static, of type " + type, Modifier.isStatic(m) && field.getType() == type);
            } else {
                DUE.holds(field + " is private", Modifier.isPrivate(m));
            }
        }
        long own = Arrays.stream(LeastAlone.class.getDeclaredFields()).filter(f -> !Modifier.isStatic(f.getModifiers())).count();
        DUE.holds("an object has few fields", own <= 20);
        DUE.holds("the constants: " + shown, shown.equals(new TreeSet<>(Arrays.asList(CONSTANTS))));
    }

    private static void constructors() {
        Constructor<?>[] all = LeastAlone.class.getDeclaredConstructors();
        DUE.is("constructors", all.length, 1);
        DUE.holds("it is public and takes nothing", Modifier.isPublic(all[0].getModifiers()) && all[0].getParameterCount() == 0);
    }

    private static Set<String> faceNames() {
        Set<String> names = new HashSet<>();
        for (String one : FACE) {
            names.add(one.substring(one.indexOf(' ') + 1, one.indexOf('(')));
        }
        return names;
    }

    private static void inside() {
        Set<String> names = faceNames();
        Class<?>[] classes = LeastAlone.class.getDeclaredClasses();
        DUE.holds("at most twelve classes", classes.length + 1 <= 12);
        for (Class<?> one : classes) {
            DUE.holds(one + " is static", Modifier.isStatic(one.getModifiers()));
            DUE.holds(one + " is not public", !Modifier.isPublic(one.getModifiers()) && !Modifier.isProtected(one.getModifiers()));
            DUE.holds(one + " has few fields", one.getDeclaredFields().length <= 20);
            for (Method method : one.getDeclaredMethods()) {
                DUE.holds(method + " bears a name of its own", !names.contains(method.getName()));
                DUE.holds(method + " takes few", method.getParameterCount() <= 7);
            }
        }
    }
}
