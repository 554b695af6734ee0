import java.io.IOException;
import java.lang.reflect.Constructor;
import java.lang.reflect.Field;
import java.lang.reflect.Method;
import java.lang.reflect.Modifier;
import java.nio.file.Files;
import java.nio.file.Paths;
import java.util.ArrayList;
import java.util.List;
import java.util.TreeSet;
import java.util.regex.Matcher;
import java.util.regex.Pattern;

/** Rules of LANGUAGE.md that can be seen in the source's text or in the class itself. */
public final class LanguageTest {
    private static final String[] FACE = {"feed", "end", "map", "fault", "person", "land", "road", "now", "cross", "pact",
        "breaks", "close", "open", "lend", "days", "undo", "way", "wayAt", "round", "spare", "spared", "made", "madeAt",
        "likely", "caravan", "caravanAt", "part", "parting", "rests", "pass", "byteAt", "drawn", "odds", "book", "told",
        "sentence", "said", "image", "restore", "count"};

    public static void main(String[] args) throws IOException {
        String text = Files.readString(Paths.get("src/main/java/InchBorders.java"));
        String code = text.replaceAll("(?s)/\\*.*?\\*/", "").replaceAll("//.*", "");
        words(code);
        methods(code);
        face();
        Check.end();
    }

    private static void words(String code) {
        String[] kept = {"->", "::", "\\btry\\b", "\\bcatch\\b", "\\bfinally\\b", "\\bassert\\b", "\\bsynchronized\\b",
            "\\bpackage\\b", "Exact\\b", "\\bstatic \\{", "\\bString\\[", "\\bdouble\\b", "\\bfloat\\b", "hashCode",
            "toString", "System\\.(?!arraycopy)", "\\bRandom\\b", "\" \\+", "\\+ \"", "while \\(true\\)", "for \\(;;\\)",
            "\\bvar\\b", "\\bThread\\b", "[^\\x00-\\x7f]"};
        for (String word : kept) {
            Matcher m = Pattern.compile(word).matcher(code);
            Check.due("the source has " + word, m.find(), false);
        }
        Matcher imports = Pattern.compile("(?m)^import (.*);").matcher(code);
        while (imports.find()) {
            Check.due("imports", imports.group(1), "java.util.NoSuchElementException");
        }
        Matcher thrown = Pattern.compile("\\bthrow\\b[^;]*;").matcher(code);
        while (thrown.find()) {
            Check.due("throws", thrown.group(), "throw new NoSuchElementException();");
        }
    }

    private static void methods(String code) {
        Matcher m = Pattern.compile("(?m)^( {4}| {8})((?:private |public |static |final )*)([\\w\\[\\]]+) (\\w+)"
            + "\\(([^)]*)\\)[^;{]*\\{$").matcher(code);
        int found = 0;
        while (m.find()) {
            found++;
            int parameters = m.group(5).isEmpty() ? 0 : m.group(5).split(",").length;
            Check.due(m.group(4) + " has more than seven parameters", parameters > 7, false);
            int end = code.indexOf("\n" + m.group(1) + "}", m.end());
            long lines = code.substring(m.start(), end).chars().filter(c -> c == '\n').count();
            Check.due(m.group(4) + " has more than sixty lines", lines > 60, false);
        }
        Check.due("methods are seen", found > 100, true);
    }

    private static void face() {
        TreeSet<String> face = new TreeSet<>(List.of(FACE));
        TreeSet<String> seen = new TreeSet<>();
        Class<InchBorders> c = InchBorders.class;
        Check.due("final", Modifier.isFinal(c.getModifiers()), true);
        for (Method m : c.getDeclaredMethods()) {
            if (Modifier.isPublic(m.getModifiers())) {
                Check.due(m + " is told twice", seen.add(m.getName()), true);
            } else if (!m.isSynthetic()) {
                Check.due(m + " is private", Modifier.isPrivate(m.getModifiers()), true);
                Check.due(m + " has a name of the face", face.contains(m.getName()), false);
            }
        }
        Check.due("the face", seen.toString(), face.toString());
        for (Constructor<?> k : c.getDeclaredConstructors()) {
            Check.due("one public constructor without parameters", k.toString(), "public InchBorders()");
        }
        for (Field f : c.getDeclaredFields()) {
            boolean seenOutside = !Modifier.isPrivate(f.getModifiers()) && !f.isSynthetic();
            Check.due(f + " is seen outside", seenOutside, f.getName().equals("NONE"));
            if (Modifier.isStatic(f.getModifiers())) {
                Check.due(f + " is final", Modifier.isFinal(f.getModifiers()), true);
            }
        }
        inside(c, face);
    }

    private static void inside(Class<?> c, TreeSet<String> face) {
        List<String> classes = new ArrayList<>();
        for (Class<?> k : c.getDeclaredClasses()) {
            classes.add(k.getSimpleName());
            Check.due(k + " is static", Modifier.isStatic(k.getModifiers()), true);
            int fields = 0;
            for (Field f : k.getDeclaredFields()) {
                if (Modifier.isStatic(f.getModifiers())) {
                    Check.due(f + " is final", Modifier.isFinal(f.getModifiers()), true);
                } else {
                    fields++;
                }
            }
            Check.due(k + " has more than twenty fields", fields > 20, false);
            for (Method m : k.getDeclaredMethods()) {
                boolean told = Modifier.isPrivate(m.getModifiers()) && face.contains(m.getName());
                Check.due(m + " has a name of the face", told, false);
            }
        }
        Check.due("more than twelve classes", classes.size() + 1 > 12, false);
    }
}
