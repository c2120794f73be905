import java.io.IOException;
import java.lang.reflect.Constructor;
import java.lang.reflect.Field;
import java.lang.reflect.Method;
import java.lang.reflect.Modifier;
import java.nio.file.Files;
import java.nio.file.Path;
import java.util.ArrayList;
import java.util.Arrays;
import java.util.List;
import java.util.Set;
import java.util.TreeSet;
import java.util.regex.Matcher;
import java.util.regex.Pattern;

/** The rules of ../shared/LANGUAGE.md that can be seen by machine, and the document's face. */
final class LanguageTest {
    private static final Path SOURCE = Path.of("src/main/java/TunnelPeace.java");
    private static final Path DOCUMENT = Path.of("../shared/DOC.md");
    private static final String[] FORBIDDEN = {"\\bimport (?!java\\.util\\.(ArrayList|List|Arrays|Iterator);)", "\\bpackage\\b",
        "\\bthrow\\b", "\\bthrows\\b", "\\btry\\b", "\\bcatch\\b", "\\bfinally\\b", "\\bsynchronized\\b", "\\bassert\\b",
        "->", "::", "\\bSystem\\.(?!arraycopy\\b)", "\\bObject\\b", "\\bThread\\b", "\\bRuntime\\b", "Exact\\b", "\\bvolatile\\b",
        "\\bnative\\b", "\\bhashCode\\b", "\\b(Integer|Long|Math)\\.\\w+(?![\\w(])", "\\bstatic \\{"};

    public static void main(String[] args) throws IOException {
        face();
        headings();
        classes();
        words();
        lengths();
        Check.end("LanguageTest");
    }

    private static String shape(Method m) {
        StringBuilder s = new StringBuilder(m.getReturnType().getName()).append(' ').append(m.getName());
        for (Class<?> type : m.getParameterTypes()) {
            s.append(' ').append(type.getName());
        }
        return s.toString();
    }

    private static void face() throws IOException {
        Set<String> due = new TreeSet<>();
        Matcher line = Pattern.compile("(?m)^    public (int|long) (\\w+)\\((.*)\\);$").matcher(Files.readString(DOCUMENT));
        while (line.find()) {
            StringBuilder s = new StringBuilder(line.group(1)).append(' ').append(line.group(2));
            for (String parameter : line.group(3).split(", ")) {
                s.append(parameter.isEmpty() ? "" : " " + parameter.split(" ")[0]);
            }
            due.add(s.toString());
        }
        Set<String> got = new TreeSet<>();
        for (Method m : TunnelPeace.class.getDeclaredMethods()) {
            if (Modifier.isPublic(m.getModifiers())) {
                got.add(shape(m));
            } else {
                Check.that(m + " is private", Modifier.isPrivate(m.getModifiers()));
            }
        }
        Check.due("calls of the document", due.size(), 40);
        Check.that("the face is " + due + ", not " + got, due.equals(got));
        int modifiers = TunnelPeace.class.getModifiers();
        Check.that("public and final", Modifier.isPublic(modifiers) && Modifier.isFinal(modifiers));
        Constructor<?>[] constructors = TunnelPeace.class.getDeclaredConstructors();
        Check.due("constructors", constructors.length, 1);
        Check.that("public constructor", Modifier.isPublic(constructors[0].getModifiers()));
        for (Field f : TunnelPeace.class.getDeclaredFields()) {
            Check.that(f + " is private", Modifier.isPrivate(f.getModifiers()));
        }
    }

    /** The face's rows stand in the source as they do in the document, each group behind what the interface says ahead of it. */
    private static void headings() throws IOException {
        String document = Files.readString(DOCUMENT);
        StringBuilder due = new StringBuilder("public TunnelPeace()\n");
        Matcher group = Pattern.compile("(?m)^Ahead of the calls (.*) the interface says: (---- .*)\\.$").matcher(document);
        int groups = 0;
        while (group.find()) {
            groups++;
            due.append("// ").append(group.group(2)).append('\n');
            for (String call : group.group(1).split(", ")) {
                Matcher row = Pattern.compile("(?m)^    (public \\w+ " + call.replace("`", "") + "\\(.*\\));$").matcher(document);
                Check.that(call + " is of the face", row.find());
                due.append(row.group(1)).append('\n');
            }
        }
        Check.due("groups of calls", groups, 9);
        StringBuilder got = new StringBuilder();
        Matcher row = Pattern.compile("(?m)^    (public [^{=;\n]*\\)|// ---- (?!help).*)(?: \\{)?$").matcher(Files.readString(SOURCE));
        while (row.find()) {
            got.append(row.group(1)).append('\n');
        }
        Check.that("the face's rows are\n" + due + "not\n" + got, due.toString().contentEquals(got));
    }

    private static void classes() {
        Set<String> publicNames = new TreeSet<>();
        for (Method m : TunnelPeace.class.getDeclaredMethods()) {
            if (Modifier.isPublic(m.getModifiers())) {
                publicNames.add(m.getName());
            }
        }
        List<Class<?>> all = new ArrayList<>(Arrays.asList(TunnelPeace.class.getDeclaredClasses()));
        Check.that("at most twelve classes", all.size() < 12);
        for (Class<?> inside : all) {
            Check.that(inside + " is static", Modifier.isStatic(inside.getModifiers()));
            for (Method m : inside.getDeclaredMethods()) {
                Check.that(m + " has no name of the face", !publicNames.contains(m.getName()));
            }
        }
        all.add(TunnelPeace.class);
        for (Class<?> c : all) {
            int fields = 0;
            for (Field f : c.getDeclaredFields()) {
                fields += Modifier.isStatic(f.getModifiers()) ? 0 : 1;
                Check.that(f + " is final", !Modifier.isStatic(f.getModifiers()) || Modifier.isFinal(f.getModifiers()));
            }
            Check.that(c + " has at most twenty fields", fields <= 20);
            for (Method m : c.getDeclaredMethods()) {
                Check.that(m + " has at most seven parameters", m.getParameterCount() <= 7);
            }
        }
    }

    private static String code() throws IOException {
        String code = Files.readString(SOURCE).replaceAll("(?s)/\\*.*?\\*/", "").replaceAll("//.*", "");
        return code.replaceAll("\"[^\"\n]*\"", "\"\"");
    }

    private static void words() throws IOException {
        String code = code();
        for (String forbidden : FORBIDDEN) {
            Matcher m = Pattern.compile(forbidden).matcher(code);
            Check.that("no " + forbidden, !m.find());
        }
        Check.that("plain signs", Files.readString(SOURCE).chars().allMatch(c -> c == '\n' || c >= 32 && c < 127));
    }

    /** A method ends with a brace as deep as its first line. */
    private static void lengths() throws IOException {
        Matcher m = Pattern.compile("(?m)^( {4}| {8})[^\\s/*}].*\\) \\{\n(?:.*\n)*?\\1\\}$").matcher(Files.readString(SOURCE));
        int methods = 0;
        while (m.find()) {
            methods++;
            long lines = m.group().lines().count();
            Check.that(m.group().lines().findFirst().orElse("") + " has " + lines + " lines", lines <= 60);
        }
        Check.that("methods were found", methods > 80);
    }
}
