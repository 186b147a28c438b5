import java.io.IOException;
import java.nio.file.Files;
import java.nio.file.Path;
import java.nio.file.StandardCopyOption;
import java.util.ArrayList;
import java.util.List;
import java.util.Set;
import java.util.TreeSet;
import java.util.regex.Matcher;
import java.util.regex.Pattern;
import java.util.stream.Collectors;
import java.util.stream.Stream;

/** Every answer, code and command that README.md shows is as it is shown. */
public final class ReadmeTest {
    private static final Path README = Path.of("README.md");
    private static final Path CLASS = Path.of("src/main/java/ArmatureWinding.java");
    private static final Path TESTS = Path.of("src/test/java");
    private static final Path FOLDER = Path.of("build/readme");
    private static final List<String> CODES = List.of("OUT_OF_RANGE", "NO_SUCH_ITEM", "NOT_POSSIBLE", "NONE", "BROKEN");
    private static final List<Integer> VALUES = List.of(ArmatureWinding.OUT_OF_RANGE, ArmatureWinding.NO_SUCH_ITEM,
        ArmatureWinding.NOT_POSSIBLE, ArmatureWinding.NONE, ArmatureWinding.BROKEN);
    private static final String NEW_OBJECT = "ArmatureWinding x = new ArmatureWinding();";
    private static final Pattern CALL =
        Pattern.compile("x\\.(\\w+)\\((.*)\\); *// (-?\\d+)(?:, ([A-Z_]+))?(?::.*)?");
    private static final Pattern CODE_ROW = Pattern.compile("\\| `([A-Z_]+)` \\| (-?\\d+) \\| .*");
    private static final Pattern TEST_ITEM = Pattern.compile("(?m)^- ((?:`\\w+`(?:, )?)+):");

    public static void main(String[] args) throws IOException, InterruptedException {
        String readme = Files.readString(README);
        programPrints(readme);
        callsAnswer(readme);
        codesAreThoseOfTheClass(readme);
        noneIsNoNumber();
        testsAreThose(readme);
        oneTestAlone(readme);
        Due.end();
    }

    /** The blocks of one kind, each without the lines that fence it. */
    private static List<String> blocks(String readme, String kind) {
        List<String> blocks = new ArrayList<>();
        Matcher m = Pattern.compile("(?ms)^```" + kind + "\\n(.*?)^```$").matcher(readme);
        while (m.find()) {
            blocks.add(m.group(1));
        }
        return blocks;
    }

    private static String block(String readme, String kind, int number) {
        List<String> blocks = blocks(readme, kind);
        return number < blocks.size() ? blocks.get(number) : "";
    }

    private static void programPrints(String readme) throws IOException, InterruptedException {
        Due.begin("the file beside a program");
        Files.createDirectories(FOLDER);
        Files.copy(CLASS, FOLDER.resolve(CLASS.getFileName()), StandardCopyOption.REPLACE_EXISTING);
        Files.writeString(FOLDER.resolve("Plan.java"), block(readme, "java", 0));
        Due.dueText("what Plan prints", outputOf(FOLDER, block(readme, "sh", 0)), block(readme, "text", 0));
    }

    private static String outputOf(Path folder, String commands) throws IOException, InterruptedException {
        ProcessBuilder shell = new ProcessBuilder("bash", "-e", "-c", commands);
        Process running = shell.directory(folder.toFile()).redirectErrorStream(true).start();
        running.getOutputStream().close();
        String output = new String(running.getInputStream().readAllBytes());
        Due.due("exit code of " + commands, running.waitFor(), 0);
        return output;
    }

    private static void callsAnswer(String readme) {
        Due.begin("each call with its answer");
        Set<String> asked = new TreeSet<>();
        Compared x = null;
        for (String line : block(readme, "java", 1).split("\n")) {
            Matcher call = CALL.matcher(line);
            if (line.equals(NEW_OBJECT)) {
                x = new Compared("README.md");
            } else if (x != null && call.matches()) {
                asked.add(call.group(1));
                callAnswers(x, call);
            } else {
                Due.due("not a call with its answer: " + line, line.isEmpty() || line.startsWith("// "), true);
            }
        }
        Due.dueText("the calls that are shown", String.join("\n", asked), String.join("\n", publicMethods()));
    }

    /** Compared asks the document's answer too, so the answer shown is both. */
    private static void callAnswers(Compared x, Matcher call) {
        long shown = Long.parseLong(call.group(3));
        Due.due("README.md on " + call.group(1), x.ask(call.group(1), arguments(call.group(2))), shown);
        String code = codeOf(shown);
        if (!call.group(1).equals("digest") && !code.isEmpty()) {
            Due.dueText("the code's name at " + call.group(1), String.valueOf(call.group(4)), code);
        }
    }

    private static int[] arguments(String text) {
        return Stream.of(text.split(", ")).filter(part -> !part.isEmpty()).mapToInt(part -> switch (part) {
            case "true" -> 1;
            case "false" -> 0;
            case "ArmatureWinding.LAP" -> ArmatureWinding.LAP;
            case "ArmatureWinding.WAVE" -> ArmatureWinding.WAVE;
            default -> Integer.parseInt(part);
        }).toArray();
    }

    private static Set<String> publicMethods() {
        Set<String> names = new TreeSet<>();
        for (var method : ArmatureWinding.class.getMethods()) {
            if (method.getDeclaringClass() == ArmatureWinding.class) {
                names.add(method.getName());
            }
        }
        return names;
    }

    private static String codeOf(long answer) {
        for (int i = 0; i < VALUES.size(); i++) {
            if (VALUES.get(i) == answer) {
                return CODES.get(i);
            }
        }
        return "";
    }

    private static void codesAreThoseOfTheClass(String readme) {
        Due.begin("what the codes mean");
        List<String> shown = new ArrayList<>();
        for (String line : readme.split("\n")) {
            Matcher row = CODE_ROW.matcher(line);
            if (row.matches()) {
                shown.add(row.group(1));
                Due.dueText("code " + row.group(2), codeOf(Long.parseLong(row.group(2))), row.group(1));
            }
        }
        Due.dueText("the codes that are shown", String.join("\n", shown), String.join("\n", CODES));
    }

    private static void noneIsNoNumber() {
        Due.begin("how the answer of resistance() is read");
        Due.due("NONE read as bits is no number", Double.isNaN(Double.longBitsToDouble(ArmatureWinding.NONE)), true);
        ArmatureWinding x = new ArmatureWinding();
        Due.due("an answer read, as bits again", Made.bits(Double.longBitsToDouble(x.resistance())), x.resistance());
    }

    private static void testsAreThose(String readme) throws IOException {
        Due.begin("the tests");
        Set<String> shown = new TreeSet<>();
        Matcher item = TEST_ITEM.matcher(readme);
        while (item.find()) {
            shown.addAll(List.of(item.group(1).replace("`", "").split(", ")));
        }
        try (Stream<Path> files = Files.list(TESTS)) {
            Set<String> there = files.map(file -> file.getFileName().toString().replace(".java", ""))
                .collect(Collectors.toCollection(TreeSet::new));
            Due.dueText("the tests that are shown", String.join("\n", shown), String.join("\n", there));
        }
        Due.due("names .ci/run", readme.contains("\n    .ci/run\n"), true);
        Due.due(".ci/run can be run", Files.isExecutable(Path.of(".ci/run")), true);
    }

    private static void oneTestAlone(String readme) throws IOException, InterruptedException {
        Due.begin("one test alone");
        Due.due("says that none failed", outputOf(Path.of("."), block(readme, "sh", 1)).endsWith(", 0 not as due\n"), true);
    }
}
