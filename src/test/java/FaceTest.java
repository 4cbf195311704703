import java.io.IOException;
import java.lang.reflect.Constructor;
import java.lang.reflect.Field;
import java.lang.reflect.Method;
import java.lang.reflect.Modifier;
import java.nio.file.Files;
import java.nio.file.Path;
import java.util.ArrayList;
import java.util.List;
import java.util.TreeSet;
import java.util.regex.Matcher;
import java.util.regex.Pattern;

/** The face is the document's and no more; and what of LANGUAGE.md can be seen by a look at the source. */
public final class FaceTest {
    private static final Check CHECK = new Check();
    private static final String SOURCE = "src/main/java/LateRingers.java";

    private static TreeSet<String> documented() throws IOException {
        String doc = Files.readString(Path.of("../shared/DOC.md"));
        String block = doc.substring(doc.indexOf("public final class LateRingers {"));
        block = block.substring(0, block.indexOf("```"));
        TreeSet<String> lines = new TreeSet<>();
        Matcher m = Pattern.compile("public (\\w+) (\\w+)\\(([^)]*)\\)( throws [^;]*)?;").matcher(block);
        while (m.find()) {
            TreeSet<String> thrown = new TreeSet<>();
            if (m.group(4) != null) {
                thrown.addAll(List.of(m.group(4).substring(8).split(", ")));
            }
            String types = m.group(3).replaceAll("(\\w+) \\w+", "$1").replace(",", "");
            lines.add(m.group(1) + " " + m.group(2) + "(" + types + ") " + thrown);
        }
        return lines;
    }

    private static TreeSet<String> written() {
        TreeSet<String> lines = new TreeSet<>();
        for (Method m : LateRingers.class.getDeclaredMethods()) {
            if (!Modifier.isPrivate(m.getModifiers()) && !m.isSynthetic()) {
                StringBuilder types = new StringBuilder();
                for (Class<?> type : m.getParameterTypes()) {
                    types.append(types.length() == 0 ? "" : " ").append(type.getSimpleName());
                }
                TreeSet<String> thrown = new TreeSet<>();
                for (Class<?> type : m.getExceptionTypes()) {
                    thrown.add(type.getSimpleName());
                }
                lines.add(m.getReturnType().getSimpleName() + " " + m.getName() + "(" + types + ") " + thrown);
                CHECK.yes(m.getName() + " is public", Modifier.isPublic(m.getModifiers()));
            }
        }
        return lines;
    }

    private static void members() throws IOException {
        TreeSet<String> want = documented();
        TreeSet<String> got = written();
        CHECK.same("methods of the document", want.size(), 47);
        for (String line : want) {
            CHECK.yes(line + " is there", got.contains(line));
        }
        for (String line : got) {
            CHECK.yes(line + " is in the document", want.contains(line));
        }
        for (Constructor<?> c : LateRingers.class.getDeclaredConstructors()) {
            CHECK.yes("the constructor", Modifier.isPublic(c.getModifiers()) && c.getParameterCount() == 0);
        }
        for (Field f : LateRingers.class.getDeclaredFields()) {
            CHECK.yes(f.getName() + " is private", f.getName().equals("NONE") == Modifier.isPublic(f.getModifiers())
                && (f.getName().equals("NONE") || Modifier.isPrivate(f.getModifiers())));
            CHECK.yes(f.getName() + " is no static state", !Modifier.isStatic(f.getModifiers()) || Modifier.isFinal(f.getModifiers()));
        }
        CHECK.yes("public and final", Modifier.isPublic(LateRingers.class.getModifiers()) && Modifier.isFinal(LateRingers.class.getModifiers()));
        List<String> faceNames = new ArrayList<>();
        for (String line : want) {
            faceNames.add(line.substring(line.indexOf(' ') + 1, line.indexOf('(')));
        }
        for (Class<?> inside : LateRingers.class.getDeclaredClasses()) {
            CHECK.yes(inside + " is static", Modifier.isStatic(inside.getModifiers()));
            for (Method m : inside.getDeclaredMethods()) {
                CHECK.no(m + " bears a name of the face", faceNames.contains(m.getName()));
                CHECK.yes(m + " has seven parameters at most", m.getParameterCount() <= 7);
            }
        }
        CHECK.yes("twelve classes at most", LateRingers.class.getDeclaredClasses().length < 12);
    }

    /** Each line of the document's face stands in the source as it is there, parameters and exceptions in their order. */
    private static void lines() throws IOException {
        String doc = Files.readString(Path.of("../shared/DOC.md"));
        String face = doc.substring(doc.indexOf("```java\n") + 8);
        List<String> source = Files.readAllLines(Path.of(SOURCE));
        int looked = 0;
        for (String line : face.substring(0, face.indexOf("```")).split("\n")) {
            boolean isMethod = line.endsWith(");") || line.contains(") throws ");
            String written = isMethod ? line.substring(0, line.length() - 1) + " {" : line;
            CHECK.yes("the source has: " + line, source.contains(written));
            looked++;
        }
        CHECK.same("lines of the face", looked, 53);
    }

    private static void constantAndClass() throws ReflectiveOperationException {
        Field none = LateRingers.class.getField("NONE");
        CHECK.same("NONE is public static final", none.getModifiers(), Modifier.PUBLIC | Modifier.STATIC | Modifier.FINAL);
        CHECK.yes("NONE is an int", none.getType() == int.class);
        CHECK.same("NONE", none.getInt(null), -1);
        CHECK.same("constructors", LateRingers.class.getDeclaredConstructors().length, 1);
        CHECK.same("what the constructor throws", LateRingers.class.getConstructor().getExceptionTypes().length, 0);
        CHECK.yes("it is of no other class", LateRingers.class.getSuperclass() == Object.class);
        CHECK.same("interfaces", LateRingers.class.getInterfaces().length, 0);
        TreeSet<String> names = new TreeSet<>();
        for (Method m : LateRingers.class.getDeclaredMethods()) {
            CHECK.yes("one method alone is named " + m.getName(), names.add(m.getName()));
        }
    }

    /** Rule 11: some sixty lines a method, some twenty fields a class. */
    private static void sizes() throws IOException {
        List<String> source = Files.readAllLines(Path.of(SOURCE));
        for (int i = 0; i < source.size(); i++) {
            Matcher m = Pattern.compile("( {4}| {8})(\\w.*)?\\w+\\(.*\\{").matcher(source.get(i));
            if (m.matches() && !source.get(i).matches(" *(if|for|while|switch|do|else) .*")) {
                int length = source.subList(i, source.size()).indexOf(m.group(1) + "}");
                CHECK.yes(source.get(i) + " has sixty lines at most", length > 0 && length < 60);
            }
        }
        List<Class<?>> classes = new ArrayList<>(List.of(LateRingers.class.getDeclaredClasses()));
        classes.add(LateRingers.class);
        for (Class<?> one : classes) {
            int fields = 0;
            for (Field f : one.getDeclaredFields()) {
                fields += Modifier.isStatic(f.getModifiers()) ? 0 : 1;
            }
            CHECK.yes(one + " has twenty fields at most", fields <= 20);
        }
    }

    private static void source() throws IOException {
        String text = Files.readString(Path.of(SOURCE));
        String code = text.replaceAll("(?s)/\\*.*?\\*/", "").replaceAll("//[^\n]*", "");
        String[] ruledOut = {"->", "::", "\\bfinally\\b", "\\bsynchronized\\b", "\\bassert\\b", "\\btry\\b", "\\bcatch\\b", "Exact\\(",
            "\\bstatic \\{", "\\bpackage\\b", "\\bSystem\\.(?!arraycopy)", "\\bMath\\.(?!max|min|abs)", "\\bString\\.", "\\bvar\\b",
            "\"\\s*\\+", "\\+\\s*\"", "\\bObject\\b", "\\bwhile \\(true\\)", "for \\(;;\\)"};
        for (String pattern : ruledOut) {
            CHECK.no(pattern + " in the source", Pattern.compile(pattern).matcher(code).find());
        }
        for (String line : code.split("\n")) {
            if (line.startsWith("import ")) {
                CHECK.yes(line, line.equals("import java.util.Arrays;") || line.equals("import java.util.NoSuchElementException;"));
            }
            CHECK.yes("a line of 130 signs at most: " + line, line.length() <= 130);
        }
        for (int i = 0; i < text.length(); i++) {
            if (text.charAt(i) > 126) {
                CHECK.yes("only plain signs, at " + i, false);
            }
        }
    }

    public static void main(String[] args) throws IOException, ReflectiveOperationException {
        lines();
        constantAndClass();
        members();
        sizes();
        source();
        CHECK.end();
    }
}
