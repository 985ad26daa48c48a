import java.io.IOException;
import java.nio.file.DirectoryStream;
import java.nio.file.Files;
import java.nio.file.Path;
import java.util.ArrayList;
import java.util.LinkedHashMap;
import java.util.List;
import java.util.Map;
import java.util.regex.Matcher;
import java.util.regex.Pattern;

/**
 * What README.md shows: its examples stand here line for line between the marks, so that what is compiled and run is
 * what is shown, and each answer that a line shows behind its call is held against the one that came.
 */
public final class ReadmeTest extends Checks {
    private static final Path README = Path.of("README.md");
    private static final Path SOURCE = Path.of("src/test/java/ReadmeTest.java");
    private static final Path TESTS = Path.of("src/test/java");
    private static final String BEGIN = "// example begins";
    private static final String END = "// example ends";
    private static final Pattern ANSWER =
        Pattern.compile("(?:int|boolean) (\\w+) = engine\\..*; +// (-?\\d+|true|false)(?::.*)?");
    private static final Pattern CALL = Pattern.compile("(?:int|boolean) \\w+ = .*");

    public static void main(String[] args) throws IOException {
        where = "README.md";
        List<List<String>> shown = between(README, "```java", "```");
        List<List<String>> played = between(SOURCE, BEGIN, END);
        due("how many examples", shown.size(), played.size());
        List<Map<String, String>> answers = List.of(values(), function());
        due("how many answers", answers.size(), played.size());
        for (int i = 0; i < played.size() && i < shown.size(); i++) {
            dueSameLines(i, shown.get(i), played.get(i));
            dueAnswers(i, shown.get(i), answers.get(i));
        }
        dueWayToRun();
        end();
    }

    private static Map<String, String> values() {
        // example begins
        CellEngine engine = new CellEngine();
        int[] words = {
            1, 40, 1, 2, 34, 0, 0,                          // place 0: INT 40, INT 2, PRIMITIVE 0 (+), STOP
            2, 0, 9, 34, 37, 8,                             // place 7: TEXT 0, DUP, PRIMITIVE 37 (to the output), POP,
            7, 10, 29, 77, 1, 5, 30, 28,                    //   SETGLOBAL 10, NAME 77, INT 5, PACKET, RAISE
        };
        for (int word : words) {
            engine.code(word);
        }
        int size = engine.count(0);                         // 21: ints of code
        int bytes = engine.put(0x6F6C6C6568L);              // 5: "hello", the lowest byte first
        int constant = engine.constant();                   // 0: the number that TEXT names

        boolean begun = engine.start(0, 1000);              // true: a run is on, at place 0, with fuel 1000
        int end = engine.step(100);                         // 0: it has ended by STOP
        int sum = engine.look(CellEngine.NONE, 0, 1);       // 42: its result

        boolean again = engine.start(7, 1000);              // true: another run, at place 7
        int on = engine.step(3);                            // 5: three instructions are done, it is on still
        int raised = engine.step(100);                      // 1: it has ended with something raised
        int kind = engine.look(CellEngine.NONE, 0, 0);      // 7: a packet
        int name = engine.look(CellEngine.NONE, 0, 1);      // 77: by which its name is told
        int value = engine.look(CellEngine.NONE, 1, 1);     // 5: its part 1
        int letter = engine.out(0);                         // 104: "h"
        int length = engine.look(10, 0, 1);                 // 5: of the string that global 10 is
        int last = engine.byteOf(10, 0, 4);                 // 111: "o"
        int beyond = engine.byteOf(10, 0, 5);               // -1: NONE

        int reached = engine.reached();                     // 5: cells, 3 of the string and 2 of the packet
        int saved = engine.save();                          // 3: the string alone, the packet is no global's
        int none = engine.step(1);                          // -1: NONE, no run was begun
        boolean limited = engine.limits(5, 1000, 100);      // true: at most 5 cells reached from now on
        boolean third = engine.start(7, 1000);              // true
        int room = engine.step(100);                        // 3: another string needs 3 cells more
        int restored = engine.restore();                    // 3: all is again as it was saved
        // example ends
        Map<String, String> all = new LinkedHashMap<>();
        put(all, "size", size, "bytes", bytes, "constant", constant, "begun", begun, "end", end, "sum", sum);
        put(all, "again", again, "on", on, "raised", raised, "kind", kind, "name", name, "value", value);
        put(all, "letter", letter, "length", length, "last", last, "beyond", beyond, "reached", reached);
        put(all, "saved", saved, "none", none, "limited", limited, "third", third, "room", room, "restored", restored);
        return all;
    }

    private static Map<String, String> function() {
        // example begins
        CellEngine engine = new CellEngine();
        int[] words = {
            15, 11, 0, 7, 10, 6, 10, 1, 3, 17, 0,           // 0: CLOSURE 11 0, SETGLOBAL 10, GLOBAL 10, INT 3, CALL, STOP
            35, 3, 0, 21, 25,                               // 11: TICK, LOCAL 0, UNLESS 25,
            6, 10, 3, 0, 1, 1, 34, 1, 18,                   // 16: GLOBAL 10, LOCAL 0, INT 1, PRIMITIVE 1 (-), TAIL
            1, 99, 19,                                      // 25: INT 99, RETURN
        };
        for (int word : words) {
            engine.code(word);
        }
        boolean begun = engine.start(0, 4);                 // true: with fuel for four ticks
        int on = engine.step(20);                           // 5: in the midst of it
        int frames = engine.count(6);                       // 2: however often the function calls itself
        int end = engine.step(100);                         // 0: by STOP
        int result = engine.look(CellEngine.NONE, 0, 1);    // 99
        int ticks = engine.count(3);                        // 4: of 3, 2, 1 and 0
        int done = engine.count(11);                        // 35: instructions

        boolean poor = engine.start(0, 3);                  // true
        int fuel = engine.step(100);                        // 2: for want of fuel
        int place = engine.count(10);                       // 11: of the TICK that did nothing
        // example ends
        Map<String, String> all = new LinkedHashMap<>();
        put(all, "begun", begun, "on", on, "frames", frames, "end", end, "result", result, "ticks", ticks);
        put(all, "done", done, "poor", poor, "fuel", fuel, "place", place);
        return all;
    }

    private static void put(Map<String, String> all, Object... namesAndAnswers) {
        for (int i = 0; i < namesAndAnswers.length; i += 2) {
            all.put(namesAndAnswers[i].toString(), namesAndAnswers[i + 1].toString());
        }
    }

    /** The lines between each pair of marks, without the space that the first of them begins with. */
    private static List<List<String>> between(Path file, String begin, String end) throws IOException {
        List<List<String>> all = new ArrayList<>();
        List<String> block = null;
        for (String line : Files.readAllLines(file)) {
            if (block == null) {
                block = line.strip().equals(begin) ? new ArrayList<>() : null;
            } else if (line.strip().equals(end)) {
                all.add(block);
                block = null;
            } else {
                block.add(line);
            }
        }
        due(file + ": an open example", block != null, false);
        return all.stream().map(ReadmeTest::toTheLeft).toList();
    }

    private static List<String> toTheLeft(List<String> block) {
        int indent = block.get(0).length() - block.get(0).stripLeading().length();
        return block.stream().map(line -> line.isEmpty() ? line : line.substring(indent)).toList();
    }

    private static void dueSameLines(int example, List<String> shown, List<String> played) {
        for (int k = 0; k < Math.max(shown.size(), played.size()); k++) {
            String there = k < shown.size() ? shown.get(k) : "(none)";
            String here = k < played.size() ? played.get(k) : "(none)";
            due("example " + example + ", line '" + there + "' is played as '" + here + "'", there.equals(here), true);
        }
    }

    private static void dueAnswers(int example, List<String> shown, Map<String, String> answers) {
        int found = 0;
        for (String line : shown) {
            Matcher answer = ANSWER.matcher(line);
            boolean tells = answer.matches();
            due("example " + example + ", line '" + line + "' shows its answer", tells, CALL.matcher(line).matches());
            if (tells) {
                found++;
                String came = answers.get(answer.group(1));
                due("example " + example + ", line '" + line + "' answered " + came, answer.group(2).equals(came), true);
            }
        }
        due("example " + example + ", answers shown", found, answers.size());
    }

    /** README.md names the script that runs the tests, and each test of the project that it runs. */
    private static void dueWayToRun() throws IOException {
        String text = Files.readString(README);
        due("names .ci/run", text.contains("`.ci/run`"), true);
        due(".ci/run can be run", Files.isExecutable(Path.of(".ci/run")), true);
        try (DirectoryStream<Path> files = Files.newDirectoryStream(TESTS, "*.java")) {
            for (Path file : files) {
                due("names " + file, text.contains(file.getFileName().toString()), true);
            }
        }
    }
}
