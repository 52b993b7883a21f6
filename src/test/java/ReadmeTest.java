import java.io.File;
import java.io.IOException;
import java.lang.reflect.Method;
import java.lang.reflect.Modifier;
import java.nio.file.Files;
import java.nio.file.Path;
import java.util.ArrayList;
import java.util.HashMap;
import java.util.List;
import java.util.Map;
import java.util.Set;
import java.util.TreeSet;
import java.util.regex.Matcher;
import java.util.regex.Pattern;

/**
 * What README.md says is so: each call of its examples answers what stands beside it, its commands run, and the tests
 * that it lists are those of the project.
 */
public final class ReadmeTest {
    private static final Pattern MADE = Pattern.compile("SpareShelves x = new SpareShelves\\(\\);.*");
    private static final Pattern CALL = Pattern.compile("(?:int (\\w+) = )?x\\.(\\w+)\\(([^()]*)\\);\\s*// (-?\\w+)(?:: .*)?");
    private static final Pattern LISTED = Pattern.compile("- `(\\w+)`: .*");
    private static final String RUN = ".ci/run";

    private static int wrong = 0;

    private static void check(boolean holds, String what) {
        if (!holds) {
            wrong++;
            System.out.println("README.md: " + what);
        }
    }

    public static void main(String[] args) throws Exception {
        List<String> lines = Files.readAllLines(Path.of("README.md"));
        examples(blocks(lines, "java"));
        commands(blocks(lines, "sh"));
        listedTests(lines);
        System.out.println(wrong == 0 ? "README.md says what is so" : wrong + " things are not as README.md says");
        if (wrong != 0) {
            System.exit(1);
        }
    }

    /** The blocks of code in a language, each as its lines. */
    private static List<List<String>> blocks(List<String> lines, String language) {
        List<List<String>> blocks = new ArrayList<>();
        List<String> open = null;
        for (String line : lines) {
            if (line.startsWith("```")) {
                open = open == null ? new ArrayList<>() : null;
                if (line.equals("```" + language)) {
                    blocks.add(open);
                }
            } else if (open != null) {
                open.add(line);
            }
        }
        check(!blocks.isEmpty(), "no block of " + language);
        return blocks;
    }

    private static void examples(List<List<String>> blocks) throws ReflectiveOperationException {
        Example example = new Example();
        for (List<String> block : blocks) {
            for (String line : block) {
                if (!line.isBlank() && !line.startsWith("//")) {
                    example.play(line);
                }
            }
        }
        for (Method m : SpareShelves.class.getDeclaredMethods()) {
            check(!Modifier.isPublic(m.getModifiers()) || example.called.contains(m.getName()), "no example of " + m.getName());
        }
    }

    /** Plays the lines of the examples; each block goes on with the object of the one before, if it makes none. */
    private static final class Example {
        final Map<String, Integer> names = new HashMap<>(Map.of("NONE", SpareShelves.NONE, "BAD", SpareShelves.BAD,
            "STATE", SpareShelves.STATE, "FULL", SpareShelves.FULL));
        final Set<String> called = new TreeSet<>();
        SpareShelves x = null;

        void play(String line) throws ReflectiveOperationException {
            Matcher call = CALL.matcher(line);
            if (MADE.matcher(line).matches()) {
                x = new SpareShelves();
            } else if (x != null && call.matches()) {
                int got = answer(call.group(2), call.group(3));
                check(got == number(call.group(4)), line + " answered " + got);
                called.add(call.group(2));
                if (call.group(1) != null) {
                    names.put(call.group(1), got);
                }
            } else {
                check(false, "this line shows no answer: " + line);
            }
        }

        int answer(String name, String with) throws ReflectiveOperationException {
            String[] words = with.isBlank() ? new String[0] : with.split(", ");
            Class<?>[] types = new Class<?>[words.length];
            Object[] numbers = new Object[words.length];
            for (int i = 0; i < words.length; i++) {
                types[i] = int.class;
                numbers[i] = number(words[i]);
            }
            return (int) SpareShelves.class.getMethod(name, types).invoke(x, numbers);
        }

        int number(String word) {
            Integer named = names.get(word);
            return named != null ? named : Integer.parseInt(word);
        }
    }

    /** The first block is the way to run all tests, which is running just now; the others are run here. */
    private static void commands(List<List<String>> blocks) throws IOException, InterruptedException {
        check(blocks.get(0).equals(List.of(RUN)), "the first command is not " + RUN);
        check(Files.isExecutable(Path.of(RUN)), RUN + " can't be run");
        for (List<String> block : blocks.subList(1, blocks.size())) {
            String script = String.join(" && ", block);
            int code = new ProcessBuilder("sh", "-c", script).inheritIO().start().waitFor();
            check(code == 0, script + " ended with " + code);
        }
    }

    private static void listedTests(List<String> lines) {
        Set<String> listed = new TreeSet<>();
        for (String line : lines) {
            Matcher m = LISTED.matcher(line);
            if (m.matches()) {
                listed.add(m.group(1) + ".java");
            }
        }
        String[] files = new File("src/test/java").list();
        Set<String> there = files == null ? Set.of() : new TreeSet<>(List.of(files));
        check(listed.equals(there), "it lists " + listed + ", there are " + there);
    }
}
