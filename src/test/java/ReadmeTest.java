import java.io.IOException;
import java.lang.reflect.Method;
import java.lang.reflect.Modifier;
import java.nio.file.Files;
import java.nio.file.Path;
import java.util.Set;
import java.util.TreeSet;
import java.util.regex.Matcher;
import java.util.regex.Pattern;
import java.util.stream.Stream;

/** What README.md shows is what the class does: its example would else grow old unseen. */
public final class ReadmeTest {
    private static final Pattern EXAMPLE = Pattern.compile("(?s)```java\n(.*?)```");
    private static final Pattern MADE = Pattern.compile("CellSettling cell = new CellSettling\\((\\d+), (\\d+)\\);.*");
    private static final Pattern SHOWN = Pattern.compile("cell\\.(\\w+)\\((.*)\\); *// (true|false|-?\\d+): .+");

    private ReadmeTest() {
    }

    public static void main(String[] args) throws IOException {
        String readme = Files.readString(Path.of("README.md"));
        Matcher example = EXAMPLE.matcher(readme);
        String lines = example.find() ? example.group(1) : "";
        Set<String> shown = answersOf(lines.lines().toArray(String[]::new));
        Due.same("the calls shown", shown, namesOfFace());
        everyTestIsNamed(readme);
        Due.end();
    }

    private static Set<String> answersOf(String[] lines) {
        Set<String> names = new TreeSet<>();
        Matcher made = MADE.matcher(lines.length == 0 ? "" : lines[0]);
        boolean isMade = made.matches();
        Due.yes("first an object", isMade);
        if (!isMade) {
            return names;
        }
        Cell cell = new Cell(Integer.parseInt(made.group(1)), Integer.parseInt(made.group(2)));
        for (int i = 1; i < lines.length; i++) {
            if (lines[i].isEmpty() || lines[i].startsWith("// ")) {
                continue;
            }
            Matcher line = SHOWN.matcher(lines[i]);
            boolean isShown = line.matches();
            Due.yes("a call and its answer: " + lines[i], isShown);
            if (!isShown) {
                continue;
            }
            Call call = Call.of(line.group(1) + " " + line.group(2).replace(",", ""));
            Due.is(call.toString(), cell.ask(call), number(line.group(3)));
            names.add(call.name());
        }
        return names;
    }

    private static long number(String answer) {
        return switch (answer) {
            case "true" -> 1;
            case "false" -> 0;
            default -> Long.parseLong(answer);
        };
    }

    private static Set<String> namesOfFace() {
        Set<String> names = new TreeSet<>();
        for (Method m : CellSettling.class.getDeclaredMethods()) {
            if (Modifier.isPublic(m.getModifiers())) {
                names.add(m.getName());
            }
        }
        return names;
    }

    private static void everyTestIsNamed(String readme) throws IOException {
        try (Stream<Path> files = Files.list(Path.of("src/test/java"))) {
            files.map(file -> file.toString().replace('\\', '/')).filter(file -> file.endsWith("Test.java"))
                .forEach(file -> Due.yes("README.md names " + file, readme.contains("`" + file + "`")));
        }
    }
}
