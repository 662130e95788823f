import java.io.IOException;
import java.lang.reflect.Constructor;
import java.lang.reflect.Field;
import java.lang.reflect.Method;
import java.lang.reflect.Modifier;
import java.nio.charset.StandardCharsets;
import java.nio.file.Files;
import java.nio.file.Path;
import java.util.ArrayList;
import java.util.Arrays;
import java.util.List;
import java.util.Set;
import java.util.TreeSet;
import java.util.regex.Matcher;
import java.util.regex.Pattern;

/** What of the language's rules a look at the class and its text can tell; run from the root. */
public final class LanguageTests {
    private static final String FACE =
            "about int; aside int,int; barren int; clash int; clashes; doubles; edge int,int; fault;"
            + " feed int,int,int,int,int; formula int,int; function int,int; grammar int; hidden int;"
            + " highest; item int,int; kind int; knotted; later; node int,int; otherwise; read int;"
            + " reduced int; related int; relation int,int; ring; ringAt int; rule int,int; sign int;"
            + " size int; third; trouble; under int,int; undo; value int; where";
    private static final String[] NOT_ALLOWED = {
        "->", "::", "Float.", "Double.", "Exact(", "synchronized", "assert ", "finally", "catch",
        "instanceof", "static {", "package ", "System.out", "Math.random", "Character", "while (true",
        "Exception e", ".equals(", "NaN", "transient", "volatile", "native", "protected",
    };

    private static void due(String what, boolean so) {
        Checks.due(what, so ? 1 : 0, 1);
    }

    private static List<Class<?>> classes() {
        List<Class<?>> all = new ArrayList<>(List.of(SignLadders.class));
        all.addAll(Arrays.asList(SignLadders.class.getDeclaredClasses()));
        return all;
    }

    private static String told(Method m) {
        StringBuilder text = new StringBuilder(m.getName());
        for (int i = 0; i < m.getParameterCount(); i++) {
            text.append(i == 0 ? " " : ",").append(m.getParameterTypes()[i].getName());
        }
        return text.toString();
    }

    private static Set<String> face() {
        Set<String> names = new TreeSet<>();
        Set<String> found = new TreeSet<>();
        for (Method m : SignLadders.class.getDeclaredMethods()) {
            if (Modifier.isPublic(m.getModifiers())) {
                found.add(told(m));
                names.add(m.getName());
                due(m.getName() + " is of an object", !Modifier.isStatic(m.getModifiers()));
                Class<?> answers = m.getName().equals("undo") ? boolean.class
                        : m.getName().equals("third") ? long.class : int.class;
                due(m.getName() + " answers as told", m.getReturnType() == answers);
            } else {
                due(m.getName() + " is private", Modifier.isPrivate(m.getModifiers()));
            }
        }
        due("the face: " + found, found.equals(new TreeSet<>(Arrays.asList(FACE.split("; ?")))));
        due("the class is public and final", Modifier.isPublic(SignLadders.class.getModifiers())
                && Modifier.isFinal(SignLadders.class.getModifiers()));
        Constructor<?>[] makers = SignLadders.class.getDeclaredConstructors();
        due("one constructor, public and bare", makers.length == 1
                && Modifier.isPublic(makers[0].getModifiers()) && makers[0].getParameterCount() == 0);
        return names;
    }

    private static void classRules(Set<String> faceNames) {
        due("at most twelve classes", classes().size() <= 12);
        for (Class<?> c : classes()) {
            int own = 0;
            for (Field f : c.getDeclaredFields()) {
                boolean fixed = Modifier.isStatic(f.getModifiers());
                own += fixed ? 0 : 1;
                due(c + " " + f + " is final if static", !fixed || Modifier.isFinal(f.getModifiers()));
                boolean isFace = c == SignLadders.class;
                due(f + " is private or NONE", !isFace || Modifier.isPrivate(f.getModifiers())
                        || f.getName().equals("NONE"));
            }
            due(c + " has at most twenty fields", own <= 20);
            for (Method m : c.getDeclaredMethods()) {
                due(m + " takes at most seven", m.getParameterCount() <= 7);
                boolean hides = c != SignLadders.class && faceNames.contains(m.getName());
                due(m + " has a name of its own", !hides);
            }
            due(c + " is static if inside", c == SignLadders.class
                    || Modifier.isStatic(c.getModifiers()) && !Modifier.isPublic(c.getModifiers()));
        }
    }

    private static void textRules(String source) {
        for (String no : NOT_ALLOWED) {
            due("no " + no, !source.contains(no));
        }
        due("one import", source.split("import ").length == 2
                && source.contains("import java.util.NoSuchElementException;"));
        for (int i = 0; i < source.length(); i++) {
            if (source.charAt(i) > 126) {
                due("only plain signs", false);
            }
        }
        // What is made is made with the object, so that no call makes anything.
        for (String line : source.split("\n")) {
            boolean makes = line.contains("new ");
            boolean field = line.matches(" +(private )?(final )?[A-Z]?\\w+(\\[\\])? \\w+ = new .*;");
            due("made by a call: " + line, !makes || field || line.contains("throw new "));
        }
        methodLengths(source.split("\n"));
    }

    private static void methodLengths(String[] lines) {
        Pattern start = Pattern.compile("( +)(public |private |static )*[\\w\\[\\]]+ \\w+\\(.*");
        for (int i = 0; i < lines.length; i++) {
            Matcher m = start.matcher(lines[i]);
            if (m.matches() && !lines[i].contains(";") && !lines[i].trim().startsWith("return")) {
                int end = i;
                while (end < lines.length && !lines[end].equals(m.group(1) + "}")) {
                    end++;
                }
                due("short: " + lines[i], end - i <= 60);
            }
        }
    }

    public static void main(String[] args) throws IOException {
        Path source = Path.of("src/main/java/SignLadders.java");
        classRules(face());
        textRules(new String(Files.readAllBytes(source), StandardCharsets.UTF_8));
        Checks.end();
    }
}
