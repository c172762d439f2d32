import java.io.IOException;
import java.lang.reflect.Constructor;
import java.lang.reflect.Field;
import java.lang.reflect.Method;
import java.lang.reflect.Modifier;
import java.nio.file.Files;
import java.nio.file.Path;
import java.util.ArrayList;
import java.util.List;
import java.util.Set;
import java.util.TreeSet;
import java.util.regex.Pattern;

/** The face is the document's and no more, and the file keeps to those rules of LANGUAGE.md that can be seen from outside. */
public final class FaceTest {
    private static final Set<String> FACE = Set.of(
            "int feed(int,int,int,int,int)", "int text(int)", "int fault()", "int sample(int,int,int)",
            "int strike(int,boolean)", "int sign(int,int,int)", "int erase(int,int)", "int undo()", "int told(int)",
            "int voter(int,int)", "int letter(int,int)", "int sheet(int,int)", "int line(int,int,int)", "int judged(int)",
            "int passes()", "int drawn(int,int)", "long estimate(int,int)", "int unlike(int)", "long unseen(int,int)",
            "int fewest()", "int worst(int,int)", "int cost(int)", "long print()", "int status(int)");

    private static final String[] FORBIDDEN = {
        "->", "::", "\\bfinally\\b", "\\bsynchronized\\b", "\\bassert\\b", "Exact\\(", "\\bcatch\\b", "\\bObject\\b",
        "\\bHash", "\\bSystem\\.(?!arraycopy)", "\\bdouble\\b", "\\bfloat\\b", "\\binstanceof\\b", "\\bstatic \\{"};

    public static void main(String[] args) throws IOException {
        face();
        List<Class<?>> all = new ArrayList<>(List.of(PetitionDesk.class.getDeclaredClasses()));
        all.add(PetitionDesk.class);
        yes("twelve classes at most", all.size() <= 12);
        for (Class<?> each : all) {
            classOf(each);
        }
        source();
        Check.end("FaceTest");
    }

    private static void yes(String what, boolean is) {
        Check.look(what, Boolean.toString(is), "true");
    }

    private static void face() {
        Class<?> desk = PetitionDesk.class;
        yes("public and final", Modifier.isPublic(desk.getModifiers()) && Modifier.isFinal(desk.getModifiers()));
        Set<String> met = new TreeSet<>();
        Set<String> names = new TreeSet<>();
        for (Method m : desk.getDeclaredMethods()) {
            if (Modifier.isPublic(m.getModifiers())) {
                met.add(signature(m));
                names.add(m.getName());
            }
        }
        Check.look("the face", met.toString(), new TreeSet<>(FACE).toString());
        for (Method m : desk.getDeclaredMethods()) {
            boolean isPublic = Modifier.isPublic(m.getModifiers());
            yes(m + " is public or private", isPublic || Modifier.isPrivate(m.getModifiers()) || m.isSynthetic());
            yes(m + " bears a name of its own", isPublic || !names.contains(m.getName()));
        }
        for (Field f : desk.getDeclaredFields()) {
            yes(f + " is NONE or private", f.getName().equals("NONE") || Modifier.isPrivate(f.getModifiers()));
        }
        yes("one constructor", desk.getConstructors().length == 1 && desk.getDeclaredConstructors().length == 1);
    }

    private static String signature(Method m) {
        StringBuilder text = new StringBuilder(m.getReturnType() + " " + m.getName() + "(");
        for (Class<?> type : m.getParameterTypes()) {
            text.append(text.charAt(text.length() - 1) == '(' ? "" : ",").append(type);
        }
        return text.append(')').toString();
    }

    private static void classOf(Class<?> each) {
        yes(each + " is static or the outer one", each == PetitionDesk.class || Modifier.isStatic(each.getModifiers()));
        int fields = 0;
        for (Field f : each.getDeclaredFields()) {
            if (Modifier.isStatic(f.getModifiers())) {
                yes(f + " is final", Modifier.isFinal(f.getModifiers()));
            } else {
                fields++;
            }
        }
        yes(each + " has some twenty fields", fields <= 20);
        for (Method m : each.getDeclaredMethods()) {
            yes(m + " has seven parameters at most", m.getParameterCount() <= 7);
        }
        for (Constructor<?> c : each.getDeclaredConstructors()) {
            yes(c + " has seven parameters at most", c.getParameterCount() <= 7);
        }
    }

    private static void source() throws IOException {
        List<String> lines = Files.readAllLines(Path.of("src/main/java/PetitionDesk.java"));
        int begun = -1;
        for (int i = 0; i < lines.size(); i++) {
            String line = lines.get(i);
            String code = line.strip();
            boolean isComment = code.startsWith("//") || code.startsWith("/*") || code.startsWith("*");
            for (String forbidden : FORBIDDEN) {
                yes("line " + (i + 1) + " is without " + forbidden, isComment || !Pattern.compile(forbidden).matcher(code).find());
            }
            if (code.startsWith("import ")) {
                yes(code, Set.of("import java.util.Arrays;", "import java.util.NoSuchElementException;").contains(code));
            }
            yes("line " + (i + 1) + " holds signs 1 to 127", line.chars().allMatch(c -> c > 0 && c < 128));
            if (code.endsWith(") {") && line.matches(" {4}( {4})?[a-z].*")) {
                begun = i;
            }
            if (begun >= 0 && line.matches(" {4}( {4})?}")) {
                yes("the method at line " + (begun + 1) + " is short", i - begun < 60);
                begun = -1;
            }
        }
    }
}
