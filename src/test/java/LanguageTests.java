import java.lang.management.ManagementFactory;
import java.lang.reflect.Constructor;
import java.lang.reflect.Field;
import java.lang.reflect.Method;
import java.lang.reflect.Modifier;
import java.nio.file.Files;
import java.nio.file.Path;
import java.util.Arrays;
import java.util.List;
import java.util.Set;
import java.util.TreeSet;
import java.util.regex.Matcher;
import java.util.regex.Pattern;

/** The rules of LANGUAGE.md that can be tested: the face, the words of the source, the room. */
public final class LanguageTests {
    private static final String SOURCE = "src/main/java/SwarmPlanner.java";
    private static final List<String> FACE = List.of("account(int)", "add(int,int)", "again()",
            "back()", "cell(int,int)", "choose(int)", "count(int)", "distance(int,int)", "execute()",
            "feed(int,int,int,int,int,int)", "healed(int)", "healedWithout(int,int)", "image()",
            "lead(int)", "lose(int)", "member(int,int)", "obstacle(int)", "recognized(int)",
            "refusal(int)", "rounds(int)", "shape(int)", "slot(int,int)", "swarm(int)",
            "target(int)", "undo()");
    private static final List<String> FORBIDDEN = List.of("throw", "throws", "try", "catch",
            "finally", "synchronized", "assert", "protected", "volatile", "transient", "native",
            "System\\.(?!arraycopy)", "Math\\.\\w*Exact", "->", "::", "hashCode", "toString",
            "package", "import (?!java\\.util\\.(Arrays|ArrayList|List);)", "Object", "Random");

    private LanguageTests() {
    }

    public static void main(String[] args) throws Exception {
        constants();
        face();
        classesInside();
        wordsOfTheSource();
        lengthsOfMethods();
        roomOfAnObject();
        roomOfCalls();
        Check.end();
    }

    private static void constants() throws Exception {
        String[] names = {"NONE", "BAD", "STATE", "FULL"};
        for (int i = 0; i < names.length; i++) {
            Field field = SwarmPlanner.class.getField(names[i]);
            Check.due(names[i], field.getInt(null), -1 - i);
            Check.that(names[i] + " is an int", field.getType() == int.class);
        }
    }

    private static void face() {
        Class<SwarmPlanner> face = SwarmPlanner.class;
        Check.that("public and final", Modifier.isPublic(face.getModifiers())
                && Modifier.isFinal(face.getModifiers()));
        Set<String> names = new TreeSet<>();
        for (Method method : face.getDeclaredMethods()) {
            if (!Modifier.isPrivate(method.getModifiers())) {
                Check.that(method + " is public", Modifier.isPublic(method.getModifiers()));
                Check.that(method + " answers an int", method.getReturnType() == int.class);
                String parameters = Arrays.toString(method.getParameterTypes());
                names.add(method.getName() + "("
                        + parameters.substring(1, parameters.length() - 1).replace(" ", "") + ")");
            }
        }
        Check.that("the methods of the face are " + names, names.equals(new TreeSet<>(FACE)));
        Constructor<?>[] constructors = face.getDeclaredConstructors();
        Check.that("one public constructor", constructors.length == 1
                && Modifier.isPublic(constructors[0].getModifiers())
                && constructors[0].getParameterCount() == 0);
        int open = 0;
        for (Field field : face.getDeclaredFields()) {
            open += Modifier.isPrivate(field.getModifiers()) ? 0 : 1;
        }
        Check.due("fields that are not private", open, 4);
    }

    private static void classesInside() {
        Set<String> publicNames = new TreeSet<>();
        FACE.forEach(name -> publicNames.add(name.substring(0, name.indexOf('('))));
        Class<?>[] inside = SwarmPlanner.class.getDeclaredClasses();
        Check.that("at most twelve classes", inside.length + 1 <= 12);
        for (Class<?> each : inside) {
            Check.that(each + " is static", Modifier.isStatic(each.getModifiers()));
            Check.that(each + " is hidden", !Modifier.isPublic(each.getModifiers()));
            checkMembers(each, publicNames);
        }
        checkMembers(SwarmPlanner.class, Set.of());
    }

    private static void checkMembers(Class<?> each, Set<String> publicNames) {
        int fields = 0;
        for (Field field : each.getDeclaredFields()) {
            boolean constant = Modifier.isStatic(field.getModifiers());
            fields += constant ? 0 : 1;
            Check.that(field + " is final if static", !constant
                    || Modifier.isFinal(field.getModifiers()));
        }
        Check.that(each + " has at most twenty fields", fields <= 20);
        for (Method method : each.getDeclaredMethods()) {
            Check.that(method + " has no public name", !publicNames.contains(method.getName()));
            Check.that(method + " has at most seven parameters", method.getParameterCount() <= 7);
        }
    }

    private static String source() throws Exception {
        String text = Files.readString(Path.of(SOURCE));
        return text.replaceAll("(?s)/\\*.*?\\*/", " ").replaceAll("//[^\n]*", " ");
    }

    private static void wordsOfTheSource() throws Exception {
        String text = source();
        for (String word : FORBIDDEN) {
            String bounded = word.matches("[a-zA-Z]+") ? "\\b" + word + "\\b" : word;
            Matcher found = Pattern.compile(bounded).matcher(text);
            Check.that("no " + word + " in the source", !found.find());
        }
        Check.that("plain signs alone", text.chars().allMatch(sign -> sign < 128));
    }

    private static void lengthsOfMethods() throws Exception {
        String[] lines = Files.readString(Path.of(SOURCE)).split("\n");
        for (int from = 0; from < lines.length; from++) {
            Matcher head = Pattern.compile("^( {4}| {8})\\S.*\\) \\{$").matcher(lines[from]);
            if (head.matches()) {
                int to = from;
                while (!lines[to].equals(head.group(1) + "}")) {
                    to++;
                }
                Check.that("sixty lines at most: " + lines[from], to - from < 60);
            }
        }
    }

    private static long allocated() {
        return ((com.sun.management.ThreadMXBean) ManagementFactory.getThreadMXBean())
                .getThreadAllocatedBytes(Thread.currentThread().getId());
    }

    private static void roomOfAnObject() {
        new SwarmPlanner();
        long before = allocated();
        new SwarmPlanner();
        long bytes = allocated() - before;
        Check.that("a new object takes " + bytes + " bytes", bytes < 200_000);
    }

    private static void roomOfCalls() {
        SwarmPlanner x = new SwarmPlanner();
        Check.shape(x, 0, "###/#*#/###");
        Check.execute(x, "a5,5;a0,0;a1,0;a2,0;a3,0;a11,9;a10,9;a9,9;a8,9;a0,9");
        dearCalls(x);
        long before = allocated();
        for (int i = 0; i < 20; i++) {
            dearCalls(x);
        }
        long bytes = allocated() - before;
        Check.that("calls take " + bytes + " bytes", bytes < 20_000);
    }

    private static void dearCalls(SwarmPlanner x) {
        x.healed(40);
        x.healedWithout(3, 40);
        x.target(117);
        x.rounds(40);
        x.obstacle(60);
        x.again();
        x.recognized(0);
        x.image();
        x.back();
        x.undo();
        x.feed(3, 'g', '4', '0', 0, 0);
        x.execute();
        for (int what = 0; what < 8; what++) {
            x.swarm(what);
            x.member(2, what);
            x.cell(what, 2);
        }
    }
}
