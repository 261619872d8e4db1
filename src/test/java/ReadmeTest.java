import java.io.IOException;
import java.nio.file.DirectoryStream;
import java.nio.file.Files;
import java.nio.file.Path;
import java.util.Arrays;
import java.util.List;
import java.util.Set;
import java.util.TreeSet;
import java.util.regex.Matcher;
import java.util.regex.Pattern;

/** README.md: its example answers what it says, and no call, code or test is left out of its tables. */
public final class ReadmeTest {
    /** Each call as the document has it, and what it may answer but what was asked for. */
    private static final String[][] CALLS = {
        {"type(letter)", "BAD FULL"}, {"clear()", ""}, {"tells()", ""}, {"passes(n)", "BAD STATE"},
        {"drafts(q)", "BAD STATE"}, {"caps(c)", "BAD STATE"}, {"flows(t, v)", "BAD STATE"}, {"undo()", "STATE"},
        {"inflow(t)", "BAD"}, {"loss(v)", "BAD"}, {"lowest(l)", "BAD"}, {"need(q)", "BAD NONE"},
        {"sure(c, what)", "BAD"}, {"piece(k, what)", "BAD NONE"}, {"least(m)", "BAD NONE"}, {"round(what)", "BAD"},
        {"run(t)", "BAD"}, {"odds(k, x, what)", "BAD"}, {"sees(t, v)", "BAD FULL"}, {"forget()", ""},
        {"fits(what)", "BAD NONE"}, {"look()", "NONE"}, {"keep(image)", "BAD"}, {"back(image)", "BAD STATE"},
        {"count(what)", "BAD"}};
    private static final int EXAMPLE_CALLS = 11;
    private static final Checks CHECKS = new Checks();

    public static void main(String[] args) throws ReflectiveOperationException, IOException {
        String page = Files.readString(Path.of("README.md"));
        example(page);
        rowsOfCalls(page);
        constants(page);
        rowsOfTests(page, Path.of("src/test/java"));
        CHECKS.end();
    }

    private static void example(String page) throws ReflectiveOperationException {
        Matcher block = Pattern.compile("(?s)```java\n(.*?)```").matcher(page);
        CHECKS.due("there is an example", block.find());
        String code = block.group(1);
        Matcher text = Pattern.compile("String text = \"(.*)\";").matcher(code);
        CHECKS.due("it has a text", text.find());
        YieldDesk desk = new YieldDesk();
        Checks.type(desk, text.group(1));
        Matcher calls = Pattern.compile("(?m)^desk\\.(\\w+)\\(([0-9, ]*)\\); +// (-?[0-9]+):").matcher(code);
        int called = 0;
        while (calls.find()) {
            CHECKS.due(calls.group(), Integer.parseInt(calls.group(3)), answer(desk, calls.group(1), calls.group(2)));
            called++;
        }
        CHECKS.due("calls of the example", EXAMPLE_CALLS, called);
    }

    private static int answer(YieldDesk desk, String name, String numbers) throws ReflectiveOperationException {
        String[] parts = numbers.isEmpty() ? new String[0] : numbers.split(", ");
        Object[] values = Arrays.stream(parts).map(Integer::valueOf).toArray();
        Class<?>[] types = new Class<?>[values.length];
        Arrays.fill(types, int.class);
        return (int) YieldDesk.class.getMethod(name, types).invoke(desk, values);
    }

    private static void rowsOfCalls(String page) {
        for (String[] call : CALLS) {
            Matcher row = Pattern.compile("(?m)^\\| `" + Pattern.quote(call[0]) + "` \\| ([^|]+) \\|([^|]*)\\|$").matcher(page);
            boolean isThere = row.find();
            CHECKS.due("a row of " + call[0], isThere);
            if (!isThere) {
                continue;
            }
            CHECKS.same("what " + call[0] + " answers else", call[1], codes(row.group(2)));
            CHECKS.due("one row of " + call[0], !row.find());
        }
    }

    private static String codes(String words) {
        Set<String> found = new TreeSet<>();
        Matcher code = Pattern.compile("`(BAD|STATE|FULL|NONE)`").matcher(words);
        while (code.find()) {
            found.add(code.group(1));
        }
        return String.join(" ", found);
    }

    private static void constants(String page) {
        List<String> told = List.of("`BAD` (" + YieldDesk.BAD + ")", "`STATE` (" + YieldDesk.STATE + ")",
            "`FULL` (" + YieldDesk.FULL + ")", "`NONE` (" + YieldDesk.NONE + ")");
        for (String constant : told) {
            CHECKS.due("it tells " + constant, page.contains(constant));
        }
    }

    private static void rowsOfTests(String page, Path folder) throws IOException {
        CHECKS.due("it tells how they are run", page.contains(".ci/run"));
        try (DirectoryStream<Path> tests = Files.newDirectoryStream(folder, "*Test.java")) {
            for (Path test : tests) {
                String name = test.getFileName().toString().replace(".java", "");
                CHECKS.due("a row of " + name, page.contains("\n| `" + name + "` |"));
            }
        }
    }
}
