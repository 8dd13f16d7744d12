import java.lang.reflect.Method;
import java.lang.reflect.Modifier;
import java.nio.charset.StandardCharsets;
import java.nio.file.Files;
import java.nio.file.Path;
import java.util.ArrayList;
import java.util.List;
import java.util.Set;
import java.util.TreeSet;
import java.util.regex.Matcher;
import java.util.regex.Pattern;
import java.util.stream.Stream;

/** What README.md says: the answers beside its calls, its tables of answers, calls and tests. */
public final class ReadmeTest {
    private static final Expect EXPECT = new Expect("ReadmeTest");

    public static void main(String[] args) throws Exception {
        String page = Files.readString(Path.of("README.md"), StandardCharsets.UTF_8);
        answers(page);
        constants(page);
        calls(page);
        tests(page);
        EXPECT.end();
    }

    private static void due(String what, boolean holds) {
        EXPECT.due(what, holds ? 1 : 0, 1);
    }

    private static List<String> found(String pattern, String page) {
        List<String> all = new ArrayList<>();
        Matcher each = Pattern.compile(pattern, Pattern.MULTILINE).matcher(page);
        while (each.find()) {
            all.add(each.group(1));
        }
        return all;
    }

    /** Each line "night.call(numbers); // answer" of the example, on one object, in its order. */
    private static void answers(String page) throws Exception {
        ShadowNight night = new ShadowNight();
        Matcher line = Pattern.compile("^(String \\w+ = \"(.*)\"|( *)night\\.(\\w+)\\((.*)\\));(?: +// (-?\\d+)?.*)?$",
            Pattern.MULTILINE).matcher(page);
        String story = "";
        int looked = 0;
        while (line.find()) {
            if (line.group(2) != null) {
                story = line.group(2);
            } else if (line.group(4).equals("put")) {
                for (int i = 0; i < story.length(); i++) {
                    due("put(0, " + i + ")", night.put(0, i, story.charAt(i)) == 1032);
                }
            } else {
                String numbers = line.group(5).replace("story.length()", String.valueOf(story.length()));
                due(line.group() + " has its answer beside", line.group(6) != null);
                EXPECT.due(line.group(), call(night, line.group(4), numbers), Long.parseLong(line.group(6)));
                looked++;
            }
        }
        due("the example has its calls, " + looked, looked == found("^night\\.(\\w+)\\(", page).size() && looked > 20);
    }

    private static long call(ShadowNight night, String name, String numbers) throws Exception {
        for (Method m : ShadowNight.class.getDeclaredMethods()) {
            if (m.getName().equals(name)) {
                String[] parts = numbers.isEmpty() ? new String[0] : numbers.split(", ");
                Object[] values = new Object[parts.length];
                for (int i = 0; i < parts.length; i++) {
                    values[i] = Integer.valueOf(parts[i]);
                }
                return ((Number) m.invoke(night, values)).longValue();
            }
        }
        due("no call " + name, false);
        return 0;
    }

    private static void constants(String page) throws Exception {
        List<String> told = found("^\\| (`[A-Z]+` -\\d) \\|", page);
        EXPECT.due("constants", told.size(), 6);
        for (String each : told) {
            String name = each.substring(1, each.lastIndexOf('`'));
            int value = Integer.parseInt(each.substring(each.indexOf(' ') + 1));
            EXPECT.due(name, ShadowNight.class.getField(name).getInt(null), value);
        }
    }

    private static void calls(String page) {
        Set<String> told = new TreeSet<>();
        for (String line : found("^\\| [a-z, ]+ \\| ((?:`\\w+` ?)+)\\|$", page)) {
            for (String name : line.trim().split(" ")) {
                due("told once: " + name, told.add(name.replace("`", "")));
            }
        }
        Set<String> face = new TreeSet<>();
        for (Method m : ShadowNight.class.getDeclaredMethods()) {
            if (Modifier.isPublic(m.getModifiers())) {
                face.add(m.getName());
            }
        }
        due("the table of calls " + told + " has the face " + face, told.equals(face));
    }

    private static void tests(String page) throws Exception {
        Set<String> told = new TreeSet<>(found("^\\| (\\w+Test) \\|", page));
        Set<String> there = new TreeSet<>();
        try (Stream<Path> files = Files.list(Path.of("src/test/java"))) {
            files.map(f -> f.getFileName().toString()).filter(f -> f.endsWith("Test.java"))
                .forEach(f -> there.add(f.replace(".java", "")));
        }
        due("the table of tests " + told + " has those that there are " + there, told.equals(there));
        due("promise39MomentRefused is there", Files.readString(Path.of("src/test/java/EdgesOfMoments.java"),
            StandardCharsets.UTF_8).contains("promise39MomentRefused"));
    }
}
