import java.lang.reflect.Member;
import java.lang.reflect.Method;
import java.lang.reflect.Modifier;
import java.nio.file.Files;
import java.nio.file.Path;
import java.util.Arrays;
import java.util.Set;
import java.util.TreeSet;
import java.util.regex.Matcher;
import java.util.regex.Pattern;

/** The public face, and those rules of LANGUAGE.md that can be seen in the source by its words. */
public final class FaceTest {
    private static final String[] FACE = {
        "int feed(int,int,int,int,int)", "int world(int)", "int fault()", "int where()",
        "long face(int,int,int,int,int,int,boolean)", "long wet(int,int,int,int,int,boolean)",
        "long mean(int,int,int,int,int,boolean)", "int minutes(int,int,int)", "int air(int,int,int)",
        "int held(int,int,int,int,int)", "int best(int,int,int,int)", "long saves(int,int,int,int,boolean)",
        "int worst(int,int,int,int)", "int even(int,int,int,int)", "long round(int,int,int,boolean)",
        "int driest(int,int,int)", "long lee(int,int,int,int,int,int,boolean)", "int first(int,int,int,int,int,int)",
        "long least(int,int,int,int,int,boolean)", "int there(int,int,int,int,int)", "int steps(int,int,int,int,int)",
        "int step(int,int,int,int,int,int)", "int off(int,int,int,int)", "int fits(int)", "int fit(int,int)", "int lies()",
        "int day(int,int,int,int)", "int go(int,int,int)", "boolean stay(int)", "long got(int,boolean)",
        "long wetness(boolean)", "int soaked()", "boolean undo()", "int mark()", "boolean back(int)",
        "int walker(int,int)", "int road(int,int)", "int led(int)", "int size(int)", "int trouble()"};

    private static final String[] BANNED = {"->", "::", "finally", "synchronized", "assert ", "catch", "Exact(", "static {",
        "System.out", "System.nano", "System.current", "java.io", "Random", "Thread", "double", "float", "Object", "record "};

    public static void main(String[] args) throws Exception {
        members();
        source();
        Check.end("FaceTest");
    }

    private static void members() {
        Set<String> due = new TreeSet<>(Arrays.asList(FACE));
        Set<String> names = new TreeSet<>();
        Set<String> seen = new TreeSet<>();
        for (Method method : RainWalk.class.getDeclaredMethods()) {
            if (Modifier.isPublic(method.getModifiers())) {
                seen.add(told(method));
                names.add(method.getName());
            }
        }
        Check.due("the public methods are those of the face: " + seen, seen.equals(due), true);
        Check.due("the class is public and final", RainWalk.class.getModifiers() & 17, 17);
        Check.due("one constructor", RainWalk.class.getDeclaredConstructors().length, 1);
        for (Method method : RainWalk.class.getDeclaredMethods()) {
            onlyPrivate(method, seen.contains(told(method)) && Modifier.isPublic(method.getModifiers()));
            boolean shadow = Modifier.isPrivate(method.getModifiers()) && names.contains(method.getName());
            Check.due(method + " bears a public name", shadow, false);
        }
        for (java.lang.reflect.Field field : RainWalk.class.getDeclaredFields()) {
            onlyPrivate(field, field.getName().equals("NONE"));
        }
        for (Class<?> inside : RainWalk.class.getDeclaredClasses()) {
            Check.due(inside + " is static", Modifier.isStatic(inside.getModifiers()), true);
            Check.due(inside + " has some twenty fields", instanceFields(inside) <= 20, true);
            for (Method method : inside.getDeclaredMethods()) {
                Check.due(method + " bears a public name", names.contains(method.getName()), false);
                Check.due(method + " has seven parameters at most", method.getParameterCount() <= 7, true);
            }
        }
        Check.due("some twelve classes", RainWalk.class.getDeclaredClasses().length + 1 <= 12, true);
        Check.due("some twenty fields", instanceFields(RainWalk.class) <= 20, true);
    }

    private static int instanceFields(Class<?> of) {
        int count = 0;
        for (java.lang.reflect.Field field : of.getDeclaredFields()) {
            boolean isStatic = Modifier.isStatic(field.getModifiers());
            Check.due(field + " is final if static", isStatic && !Modifier.isFinal(field.getModifiers()), false);
            count += isStatic ? 0 : 1;
        }
        return count;
    }

    private static void onlyPrivate(Member member, boolean face) {
        Check.due(member + " is of the face or private", face || Modifier.isPrivate(member.getModifiers()), true);
    }

    private static String told(Method method) {
        StringBuilder all = new StringBuilder(method.getReturnType() + " " + method.getName() + "(");
        for (int i = 0; i < method.getParameterCount(); i++) {
            all.append(i > 0 ? "," : "").append(method.getParameterTypes()[i]);
        }
        return all.append(")").toString();
    }

    private static void source() throws Exception {
        String text = Files.readString(Path.of("src/main/java/RainWalk.java"));
        for (String banned : BANNED) {
            Check.due("the source has " + banned, text.contains(banned), false);
        }
        Matcher imports = Pattern.compile("import [^;]*;").matcher(text);
        while (imports.find()) {
            Check.due(imports.group(), imports.group().equals("import java.util.NoSuchElementException;"), true);
        }
        for (char sign : text.toCharArray()) {
            if (sign > 126 || sign < 32 && sign != '\n') {
                Check.due("a sign of the source", sign, ' ');
            }
        }
        Matcher thrown = Pattern.compile("throw new (\\w+)").matcher(text);
        while (thrown.find()) {
            Check.due("throws " + thrown.group(1), thrown.group(1).equals("NoSuchElementException"), true);
        }
        longMethods(text);
    }

    private static void longMethods(String text) {
        int start = -1;
        String[] lines = text.split("\n");
        for (int i = 0; i < lines.length; i++) {
            if (lines[i].matches(" {4,8}\\S.*\\) (throws \\w+ )?\\{") ) {
                start = i;
            } else if (start >= 0 && lines[i].matches(" {4,8}\\}")) {
                Check.due("the method at line " + (start + 1) + " has sixty lines at most", i - start < 60, true);
                start = -1;
            }
        }
    }
}
