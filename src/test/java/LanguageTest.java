import java.lang.reflect.Constructor;
import java.lang.reflect.Field;
import java.lang.reflect.Method;
import java.lang.reflect.Modifier;
import java.nio.charset.StandardCharsets;
import java.nio.file.Files;
import java.nio.file.Path;
import java.util.ArrayList;
import java.util.Arrays;
import java.util.List;
import java.util.Set;
import java.util.TreeSet;
import java.util.regex.Matcher;
import java.util.regex.Pattern;

/** The face of the document, and those rules of LANGUAGE.md that can be seen from outside or in the source. */
public final class LanguageTest {
    private static final Expect EXPECT = new Expect("LanguageTest");
    private static final Path SOURCE = Path.of("src/main/java/ShadowNight.java");
    private static final String FACE = "int row(int,int); int lay(int,int,int); int at(int,int); int tear(int); "
        + "int copy(int,int,int,int,int); int mean(int); int text(int,int); int put(int,int,int); "
        + "int hide(int,int,int,int); int drop(int); int lamp(int,int); int about(int,int); "
        + "int shadow(int,int,int,int); int covers(int,int,int,int,int,int); int place(int,int); int fault(int); "
        + "int story(int); int scene(int,int); int hands(); int third(); int takings(); int reaching(int); "
        + "int trunk(int); int markScene(int,int,int); int need(int,int); int good(int); int best(); "
        + "int begins(int,int); int laughter(int,int); int tale(int); int knock(int,int); int clear(); int sure(); "
        + "int shortest(int); int apart(int,int); int leastApart(); int matters(int); "
        + "int moment(int,int,int,int,int); int told(int,int); int mark(int,int); int seen(int,boolean); "
        + "int broken(int,int,int); int mistaken(); int asked(); long upper(); long lower(); int count(int); "
        + "int finding(); int findings(int); long digest()";

    public static void main(String[] args) throws Exception {
        face();
        insideClasses();
        String source = withoutComments(Files.readString(SOURCE, StandardCharsets.ISO_8859_1));
        words(source);
        methodLengths(source);
        roomIsMadeAhead(source);
        EXPECT.end();
    }

    private static void due(String rule, boolean holds) {
        EXPECT.due(rule, holds ? 1 : 0, 1);
    }

    private static void face() {
        Class<?> c = ShadowNight.class;
        due("public final class", Modifier.isPublic(c.getModifiers()) && Modifier.isFinal(c.getModifiers()));
        Set<String> publicOnes = new TreeSet<>();
        Set<String> publicNames = new TreeSet<>();
        for (Method m : c.getDeclaredMethods()) {
            if (Modifier.isPublic(m.getModifiers())) {
                publicOnes.add(told(m));
                publicNames.add(m.getName());
            }
        }
        for (Method m : c.getDeclaredMethods()) {
            boolean isPrivate = Modifier.isPrivate(m.getModifiers());
            due("public or private: " + m, isPrivate || Modifier.isPublic(m.getModifiers()));
            due("no public name: " + m, !isPrivate || !publicNames.contains(m.getName()));
        }
        for (Class<?> inside : c.getDeclaredClasses()) {
            for (Method m : inside.getDeclaredMethods()) {
                due("no public name: " + m, !publicNames.contains(m.getName()));
            }
        }
        Set<String> wanted = new TreeSet<>(Arrays.asList(FACE.split("; ")));
        due("the face " + publicOnes, publicOnes.equals(wanted));
        Set<String> constants = new TreeSet<>(Arrays.asList("BAD", "FULL", "FINDING", "STATE", "SPENT", "NONE"));
        for (Field f : c.getDeclaredFields()) {
            int how = f.getModifiers();
            due("field " + f, Modifier.isPublic(how) == constants.contains(f.getName()));
            due("field " + f, Modifier.isPublic(how) || Modifier.isPrivate(how));
        }
        Constructor<?>[] made = c.getDeclaredConstructors();
        due("one constructor", made.length == 1 && Modifier.isPublic(made[0].getModifiers()));
    }

    private static String told(Method m) {
        List<String> types = new ArrayList<>();
        for (Class<?> type : m.getParameterTypes()) {
            types.add(type.getSimpleName());
        }
        return m.getReturnType().getSimpleName() + " " + m.getName() + "(" + String.join(",", types) + ")";
    }

    private static void insideClasses() {
        List<Class<?>> all = new ArrayList<>(Arrays.asList(ShadowNight.class.getDeclaredClasses()));
        due("some twelve classes", all.size() < 12);
        for (Class<?> inside : all) {
            due("static: " + inside, Modifier.isStatic(inside.getModifiers()));
        }
        all.add(ShadowNight.class);
        for (Class<?> each : all) {
            int fields = 0;
            for (Field f : each.getDeclaredFields()) {
                boolean isStatic = Modifier.isStatic(f.getModifiers());
                due("static fields are final: " + f, !isStatic || Modifier.isFinal(f.getModifiers()));
                fields += isStatic ? 0 : 1;
            }
            due("some twenty fields: " + each, fields <= 20);
            for (Method m : each.getDeclaredMethods()) {
                due("seven parameters: " + m, m.getParameterCount() <= 7);
            }
        }
    }

    private static String withoutComments(String source) {
        return source.replaceAll("(?s)/\\*.*?\\*/", "").replaceAll("//[^\n]*", "");
    }

    private static void words(String source) {
        String refused = "throw|throws|try|catch|finally|synchronized|assert|protected|volatile|native|double|float|"
            + "Object|Exception|System\\.out|Random|Thread|equals|hashCode|toString|\\w*Exact|MAX_VALUE|MIN_VALUE";
        Matcher words = Pattern.compile("\\b(" + refused + ")\\b").matcher(source);
        while (words.find()) {
            due("no word " + words.group(), false);
        }
        due("no lambda", !source.contains("->"));
        due("no method reference", !source.contains("::"));
        due("no package", !source.contains("package "));
        Matcher imports = Pattern.compile("import ([\\w.*]+);").matcher(source);
        while (imports.find()) {
            due("import " + imports.group(1), imports.group(1).equals("java.util.Arrays"));
        }
        Matcher library = Pattern.compile("\\b(Integer|Long|Math|Arrays|System)\\.(\\w+)").matcher(source);
        Set<String> listed = new TreeSet<>(Arrays.asList("Integer.bitCount", "Math.min", "Math.max", "Math.abs",
            "Arrays.fill", "System.arraycopy"));
        while (library.find()) {
            due("library: " + library.group(), listed.contains(library.group()));
        }
    }

    private static void methodLengths(String source) {
        String[] lines = source.split("\n");
        int start = -1;
        String indent = "";
        for (int i = 0; i < lines.length; i++) {
            due("line of at most 130 signs: " + (i + 1), lines[i].length() <= 130);
            Matcher head = Pattern.compile("^( +)[\\w\\[\\] ]+\\([^;]*\\) \\{$").matcher(lines[i]);
            boolean isHead = head.find() && !lines[i].matches(".*\\b(if|for|while|switch|else)\\b.*");
            if (isHead) {
                start = i;
                indent = head.group(1);
            } else if (start >= 0 && lines[i].equals(indent + "}")) {
                due("some sixty lines: " + lines[start].trim(), i - start <= 60);
                start = -1;
            }
        }
    }

    /** All calls live in one room: whatever is made is made with the object, and no call makes more. */
    private static void roomIsMadeAhead(String source) {
        int makings = 0;
        for (String line : source.split("\n")) {
            if (line.contains("new ")) {
                makings++;
                boolean field = line.matches(" +(private )?(final )?[\\w\\[\\]]+ \\w+ = new .*; *");
                boolean element = line.matches(" +(rows|texts|hides|scenes|draft|moments)\\[\\w\\] = new \\w+\\(\\);");
                due("made with the object: " + line.trim(), field || element);
            }
        }
        due("something is made", makings > 0);
    }
}
