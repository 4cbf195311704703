import java.io.IOException;
import java.lang.reflect.Constructor;
import java.lang.reflect.Field;
import java.lang.reflect.Method;
import java.lang.reflect.Modifier;
import java.nio.file.Files;
import java.nio.file.Path;
import java.util.ArrayList;
import java.util.List;
import java.util.TreeSet;
import java.util.regex.Matcher;
import java.util.regex.Pattern;

/** The face is the document's and no more; and what of LANGUAGE.md can be seen by a look at the source. */
public final class FaceTest {
    private static final Check CHECK = new Check();
    private static final String SOURCE = "src/main/java/LateRingers.java";

    private static TreeSet<String> documented() throws IOException {
        String doc = Files.readString(Path.of("../shared/DOC.md"));
        String block = doc.substring(doc.indexOf("public final class LateRingers {"));
        block = block.substring(0, block.indexOf("```"));
        TreeSet<String> lines = new TreeSet<>();
        Matcher m = Pattern.compile("public (\\w+) (\\w+)\\(([^)]*)\\)( throws [^;]*)?;").matcher(block);
        while (m.find()) {
            TreeSet<String> thrown = new TreeSet<>();
            if (m.group(4) != null) {
                thrown.addAll(List.of(m.group(4).substring(8).split(", ")));
            }
            String types = m.group(3).replaceAll("(\\w+) \\w+", "$1").replace(",", "");
            lines.add(m.group(1) + " " + m.group(2) + "(" + types + ") " + thrown);
        }
        return lines;
    }

    private static TreeSet<String> written() {
        TreeSet<String> lines = new TreeSet<>();
        for (Method m : LateRingers.class.getDeclaredMethods()) {
            if (!Modifier.isPrivate(m.getModifiers()) && !m.isSynthetic()) {
                StringBuilder types = new StringBuilder();
                for (Class<?> type : m.getParameterTypes()) {
                    types.append(types.length() == 0 ? "" : " ").append(type.getSimpleName());
                }
                TreeSet<String> thrown = new TreeSet<>();
                for (Class<?> type : m.getExceptionTypes()) {
                    thrown.add(type.getSimpleName());
                }
                lines.add(m.getReturnType().getSimpleName() + " " + m.getName() + "(" + types + ") " + thrown);
                CHECK.yes(m.getName() + " is public", Modifier.isPublic(m.getModifiers()));
            }
        }
        return lines;
    }

    private static void members() throws IOException {
        TreeSet<String> want = documented();
        TreeSet<String> got = written();
        CHECK.same("methods of the document", want.size(), 47);
        for (String line : want) {
            CHECK.yes(line + " is there", got.contains(line));
        }
        for (String line : got) {
            CHECK.yes(line + " is in the document", want.contains(line));
        }
        for (Constructor<?> c : LateRingers.class.getDeclaredConstructors()) {
            CHECK.yes("the constructor", Modifier.isPublic(c.getModifiers()) && c.getParameterCount() == 0);
        }
        for (Field f : LateRingers.class.getDeclaredFields()) {
            CHECK.yes(f.getName() + " is private", f.getName().equals("NONE") == Modifier.isPublic(f.getModifiers())
                && (f.getName().equals("NONE") || Modifier.isPrivate(f.getModifiers())));
            CHECK.yes(f.getName() + " is no static state", !Modifier.isStatic(f.getModifiers()) || Modifier.isFinal(f.getModifiers()));
        }
        CHECK.yes("public and final", Modifier.isPublic(LateRingers.class.getModifiers()) && Modifier.isFinal(LateRingers.class.getModifiers()));
        List<String> faceNames = new ArrayList<>();
        for (String line : want) {
            faceNames.add(line.substring(line.indexOf(' ') + 1, line.indexOf('(')));
        }
        for (Class<?> inside : LateRingers.class.getDeclaredClasses()) {
            CHECK.yes(inside + " is static", Modifier.isStatic(inside.getModifiers()));
            for (Method m : inside.getDeclaredMethods()) {
                CHECK.no(m + " bears a name of the face", faceNames.contains(m.getName()));
                CHECK.yes(m + " has seven parameters at most", m.getParameterCount() <= 7);
            }
        }
        CHECK.yes("twelve classes at most", LateRingers.class.getDeclaredClasses().length < 12);
    }

    private static void source() throws IOException {
        String text = Files.readString(Path.of(SOURCE));
        String code = text.replaceAll("(?s)/\\*.*?\\*/", "").replaceAll("//[^\n]*", "");
        String[] ruledOut = {"->", "::", "\\bfinally\\b", "\\bsynchronized\\b", "\\bassert\\b", "\\btry\\b", "\\bcatch\\b", "Exact\\(",
            "\\bstatic \\{", "\\bpackage\\b", "\\bSystem\\.(?!arraycopy)", "\\bMath\\.(?!max|min|abs)", "\\bString\\.", "\\bvar\\b",
            "\"\\s*\\+", "\\+\\s*\"", "\\bObject\\b", "\\bwhile \\(true\\)", "for \\(;;\\)"};
        for (String pattern : ruledOut) {
            CHECK.no(pattern + " in the source", Pattern.compile(pattern).matcher(code).find());
        }
        for (String line : code.split("\n")) {
            if (line.startsWith("import ")) {
                CHECK.yes(line, line.equals("import java.util.Arrays;") || line.equals("import java.util.NoSuchElementException;"));
            }
            CHECK.yes("a line of 130 signs at most: " + line, line.length() <= 130);
        }
        for (int i = 0; i < text.length(); i++) {
            if (text.charAt(i) > 126) {
                CHECK.yes("only plain signs, at " + i, false);
            }
        }
    }

    public static void main(String[] args) throws IOException {
        members();
        source();
        CHECK.end();
    }
}
