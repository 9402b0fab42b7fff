import java.io.IOException;
import java.nio.file.Files;
import java.nio.file.Path;
import java.util.ArrayList;
import java.util.List;
import java.util.stream.Collectors;
import java.util.stream.Stream;

/**
 * Runs of calls, read from src/test/runs/*.run, each row with the answer that is due. README.md tells the form.
 */
public final class RunsTest {
    private static final int MOST_CALLS = 512;
    private static int wrong;

    private final String place;
    private final Face face;
    private int made;

    private RunsTest(String place, int n) {
        this.place = place;
        face = new RealFace(n);
    }

    public static void main(String[] args) throws IOException {
        List<Path> files;
        try (Stream<Path> all = Files.list(Path.of("src/test/runs"))) {
            files = all.filter(p -> p.toString().endsWith(".run")).sorted().collect(Collectors.toList());
        }
        for (Path file : files) {
            runFile(file);
        }
        if (files.isEmpty()) {
            complain("src/test/runs", "no runs there");
        }
        System.out.println(files.size() + " files of runs, " + wrong + " rows not as due");
        if (wrong != 0) {
            System.exit(1);
        }
    }

    private static void runFile(Path file) throws IOException {
        RunsTest run = null;
        List<String> rows = Files.readAllLines(file);
        for (int i = 0; i < rows.size(); i++) {
            String row = rows.get(i).trim();
            if (row.startsWith("new LoopGroup(")) {
                run = new RunsTest(file.getFileName().toString(), numbers(row)[0]);
            } else if (!row.isEmpty() && !row.startsWith("#")) {
                run.row(i + 1, row);
            }
        }
    }

    private void row(int line, String row) {
        int equals = row.indexOf('=');
        String left = equals < 0 ? row : row.substring(0, equals).trim();
        String due = equals < 0 ? null : row.substring(equals + 1).trim();
        if (left.startsWith("log ")) {
            check(line, left, log(line, Integer.parseInt(left.substring(4))), due);
            return;
        }
        String[] times = left.split(" x ", 2);
        int count = times.length == 2 ? Integer.parseInt(times[0]) : 1;
        for (int i = 0; i < count; i++) {
            for (String item : times[times.length - 1].split(";")) {
                calls(line, item.trim(), due);
            }
        }
    }

    private void calls(int line, String item, String due) {
        int space = Character.isDigit(item.charAt(0)) ? item.indexOf(' ') : -1;
        int count = space < 0 ? 1 : Integer.parseInt(item.substring(0, space));
        String call = item.substring(space + 1);
        for (int i = 0; i < count; i++) {
            String name = call.substring(0, call.indexOf('('));
            count(line, 1);
            check(line, call, Face.answer(face, name, numbers(call)), due);
        }
    }

    private void count(int line, int calls) {
        made += calls;
        if (made > MOST_CALLS) {
            complain(place + ":" + line, "the document says nothing of so many calls");
        }
    }

    private void check(int line, String call, String got, String due) {
        boolean right = due == null ? !got.startsWith("throws.") : got.equals(due);
        if (!right) {
            complain(place + ":" + line, call + " answered " + got + ", due is " + (due == null ? "no throw" : due));
        }
    }

    private String log(int line, int from) {
        List<String> entries = new ArrayList<>();
        long traced = face.call("traced");
        for (int k = from; k < traced; k++) {
            entries.add(face.call("trace", k, 0) + ":" + face.call("trace", k, 1) + ":" + face.call("trace", k, 2));
        }
        count(line, 1 + 3 * entries.size());
        return String.join(" ", entries);
    }

    private static int[] numbers(String call) {
        String inside = call.substring(call.indexOf('(') + 1, call.indexOf(')')).trim();
        if (inside.isEmpty()) {
            return new int[0];
        }
        return Stream.of(inside.split(",")).mapToInt(s -> Integer.parseInt(s.trim())).toArray();
    }

    private static void complain(String where, String what) {
        wrong++;
        System.out.println(where + ": " + what);
    }
}
