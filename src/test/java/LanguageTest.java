import java.io.IOException;
import java.lang.reflect.Constructor;
import java.lang.reflect.Field;
import java.lang.reflect.Method;
import java.lang.reflect.Modifier;
import java.nio.file.Files;
import java.nio.file.Path;
import java.util.List;
import java.util.Set;
import java.util.TreeSet;
import java.util.regex.Matcher;
import java.util.regex.Pattern;

/** The rules of LANGUAGE.md that can be seen from the source and from the compiled class. */
public final class LanguageTest {
    private static final Path SOURCE = Path.of("src/main/java/InsideOut.java");
    private static final String[] FACE = {
        "int step(int,int,int)", "int stepOf(int,int)", "int weather(int,int)", "int umbrella(int)", "int of(int,int)",
        "int change(int,int,int)", "int bears(int,int,int)", "int go(int)", "int now(int)", "int ahead(int,int,int)",
        "int home(int)", "int homeWith(int,int)", "int whup(int)", "int first()", "int habitFor(int)",
        "int heldFor(int)", "int kindFor(int)", "int roofFor(int)", "int waitFor(int)", "int gustFor(int)",
        "int ribsFor(int)", "int fits(int,int)", "int kinds(int,int)", "int gusts(int)", "long odds(int,int)",
        "int seed(int)", "int feed(int,int)", "int wipe()", "int text()", "int hold(int,int)", "int as(int,int)",
        "int sheet(int,int,int)", "int write(int,int,int)", "int copy(int,int,int,int,int)", "int load(int)",
        "int judge(int)", "int image()", "int undo()", "int tear()", "int count(int)", "int status(int)",
    };
    private static final String[] NEVER = {
        "\\bthrow\\b", "\\bthrows\\b", "\\btry\\b", "\\bcatch\\b", "\\bsynchronized\\b", "\\bassert\\b", "->", "::",
        "\\bprotected\\b", "\\bpackage\\b", "Exact\\b", "\\bObject\\b", "\\bRandom\\b", "\\bThread\\b",
        "\\bSystem\\.(?!arraycopy\\b)", "\\bhashCode\\b", "\\btoString\\b", "\\bstatic\\s*\\{",
    };

    public static void main(String[] args) throws IOException {
        face();
        insides();
        String code = withoutCommentsAndTexts(Files.readString(SOURCE));
        for (String never : NEVER) {
            Due.due("source has " + never, Pattern.compile(never).matcher(code).find() ? 1 : 0, 0);
        }
        imports(code);
        plainSigns();
        methodLengths(code);
        objectsAreMadeOnce(code);
        Due.end();
    }

    private static String withoutCommentsAndTexts(String source) {
        String noComments = source.replaceAll("(?s)/\\*.*?\\*/", "").replaceAll("//[^\n]*", "");
        return noComments.replaceAll("\"[^\"\n]*\"", "\"\"");
    }

    private static String told(Method m) {
        StringBuilder s = new StringBuilder(m.getReturnType().getSimpleName()).append(' ').append(m.getName()).append('(');
        for (int i = 0; i < m.getParameterCount(); i++) {
            s.append(i == 0 ? "" : ",").append(m.getParameterTypes()[i].getSimpleName());
        }
        return s.append(')').toString();
    }

    private static void face() {
        Set<String> names = new TreeSet<>();
        Set<String> open = new TreeSet<>();
        for (Method m : InsideOut.class.getDeclaredMethods()) {
            if (Modifier.isPublic(m.getModifiers())) {
                open.add(told(m));
                names.add(m.getName());
            }
        }
        Set<String> due = new TreeSet<>(List.of(FACE));
        Due.due("the face is " + open + ", due is " + due, open.equals(due) ? 1 : 0, 1);
        Due.due("public methods", FACE.length, 41);
        for (Method m : InsideOut.class.getDeclaredMethods()) {
            if (!Modifier.isPublic(m.getModifiers())) {
                Due.due(m + " is private", Modifier.isPrivate(m.getModifiers()) ? 1 : 0, 1);
                Due.due(m + " has a name of its own", names.contains(m.getName()) ? 1 : 0, 0);
            }
        }
        for (Constructor<?> c : InsideOut.class.getDeclaredConstructors()) {
            Due.due(c.toString(), c.getParameterCount(), 0);
            Due.due(c.toString(), Modifier.isPublic(c.getModifiers()) ? 1 : 0, 1);
        }
        for (Field f : InsideOut.class.getDeclaredFields()) {
            Due.due(f + " is private", Modifier.isPrivate(f.getModifiers()) ? 1 : 0, 1);
        }
        Due.due("the class is final", Modifier.isFinal(InsideOut.class.getModifiers()) ? 1 : 0, 1);
    }

    private static void insides() {
        int classes = 1;
        for (Class<?> c : InsideOut.class.getDeclaredClasses()) {
            classes++;
            Due.due(c + " is static", Modifier.isStatic(c.getModifiers()) ? 1 : 0, 1);
            Due.due(c + " is not open", Modifier.isPublic(c.getModifiers()) ? 1 : 0, 0);
            for (Method m : c.getDeclaredMethods()) {
                Due.due(m + " takes few", m.getParameterCount() <= 7 ? 1 : 0, 1);
            }
            fields(c);
        }
        fields(InsideOut.class);
        Due.due("few classes", classes <= 12 ? 1 : 0, 1);
    }

    private static void fields(Class<?> c) {
        int own = 0;
        for (Field f : c.getDeclaredFields()) {
            if (Modifier.isStatic(f.getModifiers())) {
                Due.due(f + " is final", Modifier.isFinal(f.getModifiers()) ? 1 : 0, 1);
            } else {
                own++;
            }
        }
        Due.due(c + " has few fields", own <= 20 ? 1 : 0, 1);
    }

    private static void imports(String code) {
        Matcher m = Pattern.compile("import\\s+([\\w.*]+);").matcher(code);
        while (m.find()) {
            Due.due("import " + m.group(1), m.group(1).equals("java.util.Arrays") ? 1 : 0, 1);
        }
    }

    private static void plainSigns() throws IOException {
        int other = 0;
        for (byte b : Files.readAllBytes(SOURCE)) {
            other += b < 1 ? 1 : 0;
        }
        Due.due("signs beyond 127", other, 0);
    }

    private static void methodLengths(String code) {
        String[] lines = code.split("\n");
        Pattern head = Pattern.compile("^( +)[\\w\\[\\] ]+\\([^;]*\\) \\{$");
        for (int i = 0; i < lines.length; i++) {
            Matcher m = head.matcher(lines[i]);
            if (!m.find() || lines[i].matches(" +(if|for|while|switch|\\} else).*")) {
                continue;
            }
            int end = i;
            while (end < lines.length && !lines[end].equals(m.group(1) + "}")) {
                end++;
            }
            Due.due(lines[i].trim() + " is short", end - i <= 60 ? 1 : 0, 1);
        }
    }

    /** Calls make nothing: all that is made, is made where a field or a row of a constructor is set. */
    private static void objectsAreMadeOnce(String code) {
        int made = 0;
        for (String line : code.split("\n")) {
            if (line.contains("new ")) {
                made++;
                boolean ofField = line.matches(" +(private )?final [\\w\\[\\]]+ \\w+ = new [\\w\\[\\]()]+;");
                boolean ofRow = line.matches(" +(sheets\\[s\\]|umbrellas\\[u\\]) = new \\w+\\(\\);");
                Due.due("made in a call: " + line.trim(), ofField || ofRow ? 1 : 0, 1);
            }
        }
        Due.due("something is made", made > 0 ? 1 : 0, 1);
    }
}
