import java.io.IOException;
import java.lang.reflect.Constructor;
import java.lang.reflect.Executable;
import java.lang.reflect.Field;
import java.lang.reflect.Method;
import java.lang.reflect.Modifier;
import java.nio.file.Files;
import java.nio.file.Path;
import java.util.ArrayList;
import java.util.HashSet;
import java.util.List;
import java.util.Set;
import java.util.TreeSet;
import java.util.regex.Matcher;
import java.util.regex.Pattern;

/** The rules of LANGUAGE.md, as far as the class file and the words of the source show them. */
public final class RulesTest {
    private static final Path SOURCE = Path.of("src/main/java/QualitativeSimulator.java");

    public static void main(String[] args) throws IOException {
        faceIsThatOfTheDocument();
        sourceDeclaresTheFace();
        membersAreHidden();
        classesInside();
        wordsOfTheSource();
        Check.end();
    }

    private static void faceIsThatOfTheDocument() {
        List<String> lines = Document.face();
        Check.same("lines of the face in the document", lines.size(), 25);
        Set<String> due = new TreeSet<>();
        for (String line : lines) {
            String types = line.replaceAll("(\\w+) \\w+(?=[^()]*\\))", "$1");
            Check.same(line + " stands once", due.add(types), true);
        }
        Set<String> got = new TreeSet<>();
        for (Constructor<?> c : QualitativeSimulator.class.getDeclaredConstructors()) {
            got.add(declared(c, c.getDeclaringClass().getSimpleName()));
        }
        for (Method m : QualitativeSimulator.class.getDeclaredMethods()) {
            if (Modifier.isPublic(m.getModifiers())) {
                got.add(declared(m, m.getReturnType().getSimpleName() + " " + m.getName()));
            }
        }
        for (String one : due) {
            Check.same("the class declares " + one, got.contains(one), true);
        }
        for (String one : got) {
            Check.same("the document declares " + one, due.contains(one), true);
        }
    }

    /** The class file forgets the names of parameters, so the source is read for them. */
    private static void sourceDeclaresTheFace() throws IOException {
        String source = Files.readString(SOURCE).replaceAll("\\s+", " ");
        for (String line : Document.face()) {
            Check.same("the source has " + line, source.contains(" " + line + " {"), true);
        }
    }

    private static String declared(Executable e, String typeAndName) {
        String modifiers = Modifier.toString(e.getModifiers());
        String thrown = names(e.getExceptionTypes());
        return modifiers + " " + typeAndName + "(" + names(e.getParameterTypes()) + ")"
                + (thrown.isEmpty() ? "" : " throws " + thrown);
    }

    private static String names(Class<?>[] types) {
        List<String> names = new ArrayList<>();
        for (Class<?> type : types) {
            names.add(type.getSimpleName());
        }
        return String.join(", ", names);
    }

    private static void membersAreHidden() {
        Class<?> whole = QualitativeSimulator.class;
        Check.same("the class is public", Modifier.isPublic(whole.getModifiers()), true);
        Check.same("the class is final", Modifier.isFinal(whole.getModifiers()), true);
        Set<String> seen = new HashSet<>();
        for (Method m : whole.getDeclaredMethods()) {
            boolean open = Modifier.isPublic(m.getModifiers());
            boolean hidden = Modifier.isPrivate(m.getModifiers());
            Check.same(m.getName() + " is public or private", open || hidden, true);
            Check.same(m.getName() + " is the only one of its name", seen.add(m.getName()), true);
        }
        for (Field f : whole.getDeclaredFields()) {
            Check.same(f.getName() + " is private", Modifier.isPrivate(f.getModifiers()), true);
        }
        Constructor<?>[] constructors = whole.getDeclaredConstructors();
        Check.same("constructors", constructors.length, 1);
        Check.same("parameters of it", constructors[0].getParameterCount(), 0);
    }

    private static void classesInside() {
        Set<String> face = new HashSet<>();
        for (Method m : QualitativeSimulator.class.getMethods()) {
            face.add(m.getName());
        }
        Class<?>[] inside = QualitativeSimulator.class.getDeclaredClasses();
        Check.same("at most twelve classes", inside.length < 12, true);
        for (Class<?> c : inside) {
            Check.same(c + " is static", Modifier.isStatic(c.getModifiers()), true);
            Check.same(c + " is open", Modifier.isPublic(c.getModifiers())
                    || Modifier.isProtected(c.getModifiers()), false);
            for (Method m : c.getDeclaredMethods()) {
                Check.same(c + "." + m.getName() + " is named as one of the face",
                        face.contains(m.getName()), false);
                Check.same(c + "." + m.getName() + " takes at most seven",
                        m.getParameterCount() <= 7, true);
            }
            int held = 0;
            for (Field f : c.getDeclaredFields()) {
                boolean fixed = Modifier.isStatic(f.getModifiers());
                Check.same(c + "." + f.getName() + " is a static that can change",
                        fixed && !Modifier.isFinal(f.getModifiers()), false);
                held += fixed ? 0 : 1;
            }
            Check.same(c + " has some twenty fields", held <= 20, true);
        }
    }

    private static void wordsOfTheSource() throws IOException {
        String source = Files.readString(SOURCE);
        String code = source.replaceAll("(?s)/\\*.*?\\*/", "").replaceAll("//[^\n]*", "");
        String[] ruledOut = {"catch", "try", "finally", "synchronized", "assert", "static {",
            "->", "::", "package ", "System.out", "System.nanoTime", "Random", "Thread",
            "Exact(", ".toString(", ".hashCode(", ".getMessage("};
        for (String word : ruledOut) {
            Check.same("the source has " + word, code.contains(word), false);
        }
        Matcher imports = Pattern.compile("(?m)^import (.*);").matcher(code);
        while (imports.find()) {
            Check.same("import", imports.group(1), "java.util.Arrays");
        }
        Matcher thrown = Pattern.compile("throw ([^;]*);").matcher(code);
        while (thrown.find()) {
            Check.same("throw " + thrown.group(1) + " is of rule 6", thrown.group(1).matches(
                    "new (IllegalState|IllegalArgument|IndexOutOfBounds)Exception\\(\"[^\"]*\"\\)"),
                    true);
        }
        for (int i = 0; i < source.length(); i++) {
            Check.same("sign " + i + " is of 1 to 127", source.charAt(i) < 128, true);
        }
        Matcher bodies = Pattern.compile(
                "(?m)^( {4}| {8})\\S[^;{}]*\\)[^;{}()]* \\{\n(?s:.*?)\n\\1\\}").matcher(code);
        int methods = 0;
        while (bodies.find()) {
            methods++;
            String body = bodies.group();
            Check.same("lines of " + body.substring(0, body.indexOf('\n')).trim() + " are few",
                    body.split("\n").length <= 60, true);
        }
        Check.same("methods were found", methods > 40, true);
    }
}
