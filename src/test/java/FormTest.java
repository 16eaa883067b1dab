import java.io.IOException;
import java.lang.reflect.Constructor;
import java.lang.reflect.Field;
import java.lang.reflect.Method;
import java.lang.reflect.Modifier;
import java.nio.file.Files;
import java.nio.file.Path;
import java.util.ArrayList;
import java.util.Arrays;
import java.util.HashSet;
import java.util.List;
import java.util.Set;
import java.util.TreeSet;
import java.util.regex.Matcher;
import java.util.regex.Pattern;

/** The public face, to the letter, and those rules of LANGUAGE.md that can be seen from outside or in the text. */
public final class FormTest {
    private static final Check C = new Check("FormTest");
    private static final String SOURCE = "src/main/java/SnowTalk.java";
    private static final String[] FACE = {
        "int gardens(int)", "int garden(int,int,int)", "int set(int,int)", "int say(int)", "int wipe()", "int fault()",
        "int judge(int)", "int done()", "int state(int,int)", "int behind(int,int)", "int first()", "int recognised(int)",
        "int where(int)", "int cleared(int)", "int salted(int)", "int slide(int,int,int)", "int holds(int)",
        "int seen(int,int)", "int forget()", "int who(int,int)", "int next(int,int)", "int laws(int)",
        "long guests(int,int,int,int)", "int build(int,int,int,int,int)", "int elsewhere(int)", "int winter(int,int,int)",
        "int image(int)", "int restore(int)", "int told(int)",
    };

    public static void main(String[] args) throws IOException {
        constants();
        methods();
        members();
        classesInside();
        text(Files.readAllLines(Path.of(SOURCE)));
        library(Files.readString(Path.of(SOURCE)));
        C.end();
    }

    private static void constants() {
        C.due("NONE", SnowTalk.NONE, -6);
        C.due("UNKNOWN", SnowTalk.UNKNOWN, -1);
        C.due("OUTSIDE", SnowTalk.OUTSIDE, -2);
        C.due("STATE", SnowTalk.STATE, -3);
        C.due("FULL", SnowTalk.FULL, -4);
        C.due("NO", SnowTalk.NO, -5);
        C.due("LOST", SnowTalk.LOST, -1000000000000000000L);
    }

    private static String told(Method m) {
        StringBuilder types = new StringBuilder();
        for (Class<?> type : m.getParameterTypes()) {
            types.append(types.length() == 0 ? "" : ",").append(type.getName());
        }
        return m.getReturnType().getName() + " " + m.getName() + "(" + types + ")";
    }

    private static void methods() {
        Set<String> open = new TreeSet<>();
        Set<String> openNames = new HashSet<>();
        for (Method m : SnowTalk.class.getDeclaredMethods()) {
            if (Modifier.isPublic(m.getModifiers())) {
                open.add(told(m));
                openNames.add(m.getName());
                C.holds(m.getName() + " is no static method", !Modifier.isStatic(m.getModifiers()));
            }
        }
        C.holds("the methods are those of the face: " + open, open.equals(new TreeSet<>(Arrays.asList(FACE))));
        List<Class<?>> all = new ArrayList<>(Arrays.asList(SnowTalk.class.getDeclaredClasses()));
        all.add(SnowTalk.class);
        for (Class<?> c : all) {
            for (Method m : c.getDeclaredMethods()) {
                C.holds(told(m) + " has at most seven parameters", m.getParameterCount() <= 7);
                boolean isFace = c == SnowTalk.class && Modifier.isPublic(m.getModifiers());
                C.holds(c + " " + m.getName() + " bears no public one's name", isFace || !openNames.contains(m.getName()));
            }
        }
    }

    private static void members() {
        C.holds("public and final", Modifier.isPublic(SnowTalk.class.getModifiers())
                && Modifier.isFinal(SnowTalk.class.getModifiers()));
        Constructor<?>[] made = SnowTalk.class.getDeclaredConstructors();
        C.holds("one public constructor without parameters", made.length == 1
                && Modifier.isPublic(made[0].getModifiers()) && made[0].getParameterCount() == 0);
        Set<String> constants = new TreeSet<>();
        for (Field f : SnowTalk.class.getDeclaredFields()) {
            int how = f.getModifiers();
            if (Modifier.isPublic(how)) {
                constants.add(f.getType() + " " + f.getName());
            }
            C.holds(f.getName() + " is public or private", Modifier.isPublic(how) || Modifier.isPrivate(how));
            C.holds(f.getName() + ": static fields are final", !Modifier.isStatic(how) || Modifier.isFinal(how));
        }
        C.holds("the constants are those of the face: " + constants, constants.equals(new TreeSet<>(Arrays.asList(
                "int NONE", "int UNKNOWN", "int OUTSIDE", "int STATE", "int FULL", "int NO", "long LOST"))));
        for (Method m : SnowTalk.class.getDeclaredMethods()) {
            int how = m.getModifiers();
            C.holds(m.getName() + " is public or private", Modifier.isPublic(how) || Modifier.isPrivate(how));
        }
    }

    private static void classesInside() {
        Class<?>[] inside = SnowTalk.class.getDeclaredClasses();
        C.holds("at most twelve classes", inside.length + 1 <= 12);
        for (Class<?> c : inside) {
            int how = c.getModifiers();
            C.holds(c + " is static", Modifier.isStatic(how));
            C.holds(c + " is private or package-visible", !Modifier.isPublic(how) && !Modifier.isProtected(how));
            int fields = 0;
            for (Field f : c.getDeclaredFields()) {
                fields += Modifier.isStatic(f.getModifiers()) ? 0 : 1;
            }
            C.holds(c + " has at most twenty fields", fields <= 20);
        }
    }

    /** Rule 4: of the library only what it lists. Rule 7: no field waits as null; images alone may not be there. */
    private static void library(String source) {
        Set<String> fine = new HashSet<>(Arrays.asList(
                "Arrays.fill", "Arrays.copyOf", "System.arraycopy", "Math.max", "Math.min"));
        Pattern library = Pattern.compile("\\b(Arrays|System|Math|Integer|Long|String|Character|Objects)\\.\\w+");
        Matcher used = library.matcher(source);
        while (used.find()) {
            C.holds(used.group() + " is of the library that may be used", fine.contains(used.group()));
        }
        C.holds("no reference is set to null", !Pattern.compile("[^=!]= null").matcher(source).find());
    }

    private static void text(List<String> lines) {
        String[] never = {"->", "::", "catch", "throw", "finally", "synchronized", "assert", "static {", "Exact(",
            "hashCode", "Random", "System.currentTimeMillis", "System.nanoTime", "System.out", "package "};
        int depth = 0;
        int opened = 0;
        for (int i = 0; i < lines.size(); i++) {
            String line = lines.get(i).replaceAll("//.*|/?\\*\\*.*|^ *\\* .*", "");
            for (String word : never) {
                C.holds("line " + (i + 1) + " is without " + word, !line.contains(word));
            }
            if (line.startsWith("import ")) {
                C.holds("line " + (i + 1) + " brings in Arrays alone", line.equals("import java.util.Arrays;"));
            }
            C.holds("line " + (i + 1) + " has signs up to 126", line.chars().allMatch(c -> c < 127));
            if (line.matches(" {4}(    )?\\S.*\\) \\{") && !line.contains(" class ")) {
                opened = i;
            }
            if (line.matches(" {4}(    )?\\}")) {
                C.holds("the method that ends in line " + (i + 1) + " has at most sixty lines", i - opened < 60 || opened == 0);
            }
            depth += line.chars().filter(c -> c == '{').count() - line.chars().filter(c -> c == '}').count();
        }
        C.due("braces left open", depth, 0);
    }
}
