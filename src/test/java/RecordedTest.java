import java.nio.charset.StandardCharsets;
import java.nio.file.Files;
import java.nio.file.Paths;
import java.util.List;

/** Runs of src/test/data/runs.txt: what is due there was worked out by a second program; README.md says which. */
public final class RecordedTest {
    public static void main(String[] args) throws java.io.IOException {
        List<String> lines = Files.readAllLines(Paths.get("src/test/data/runs.txt"), StandardCharsets.ISO_8859_1);
        Desk d = null;
        for (String line : lines) {
            int tab = line.indexOf('\t');
            if (tab < 0) {
                d = new Desk(line);
                continue;
            }
            step(d, line.substring(0, tab), line.substring(tab + 1));
        }
        Desk.end("RecordedTest");
    }

    private static void step(Desk d, String call, String want) {
        String[] part = call.split(" ", 3);
        int s = part.length > 1 ? Integer.parseInt(part[1]) : 0;
        switch (part[0]) {
            case "q": d.ask(s, part[2], want); break;
            case "a": d.then(s, want); break;
            case "o": d.due(call, d.x.open(s) ? 1 : 0, want); break;
            case "c": d.due(call, d.x.close(s) ? 1 : 0, want); break;
            case "x": d.due(call, d.x.cancel(s) ? 1 : 0, want); break;
            case "g": d.due(call, d.x.charge(s) ? 1 : 0, want); break;
            case "u": d.due(call, d.x.start() ? 1 : 0, want); break;
            case "s": d.due("states", all(d, true), want); break;
            default: d.due("counts", all(d, false), want); break;
        }
    }

    private static String all(Desk d, boolean states) {
        StringBuilder b = new StringBuilder();
        for (int i = 0; i < (states ? 6 : 9); i++) {
            if (states || i != 7) {
                b.append(i > 0 ? " " : "").append(states ? d.x.state(i) : d.x.count(i));
            }
        }
        return b.toString();
    }
}
