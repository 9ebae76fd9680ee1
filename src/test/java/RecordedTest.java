import java.nio.charset.StandardCharsets;
import java.nio.file.Files;
import java.nio.file.Paths;
import java.util.List;

/** Runs of src/test/data/runs.txt: what is due there was worked out by a second program; README.md says which. */
public final class RecordedTest {
    public static void main(String[] args) throws java.io.IOException {
        List<String> lines = Files.readAllLines(Paths.get("src/test/data/runs.txt"), StandardCharsets.ISO_8859_1);
        Desk d = null;
        for (String line : lines) {
            int tab = line.indexOf('\t');
            if (tab < 0) {
                d = new Desk(line);
                continue;
            }
            step(d, line.substring(0, tab), line.substring(tab + 1));
        }
        withRefusedCalls(lines);
        Desk.end("RecordedTest");
    }

    /** "A call that is refused changes nothing.": the runs once more, with a refused call before each step. */
    private static void withRefusedCalls(List<String> lines) {
        Desk d = null;
        int way = 0;
        for (String line : lines) {
            int tab = line.indexOf('\t');
            if (tab < 0) {
                d = new Desk(line + ", with refused calls");
            } else if (d.calls() < 440) {
                refusedCall(d, way);
                step(d, line.substring(0, tab), line.substring(tab + 1));
                way++;
            }
        }
    }

    private static void refusedCall(Desk d, int way) {
        int s = way / 16 % 6;
        boolean up = d.x.count(0) == 1;
        int state = d.x.state(s);
        switch (way % 16) {
            case 0: d.due("open", d.x.open(-1) || d.x.open(6), false); break;
            case 1: d.due("open of an open one", up && state == 0 ? false : d.x.open(s), false); break;
            case 2: d.due("close", d.x.close(-1) || d.x.close(6), false); break;
            case 3: d.due("close of one that is not open", state > 0 ? false : d.x.close(s), false); break;
            case 4: d.due("send of none", d.x.send(s, 0), 0); break;
            case 5: d.due("send of more than there is", d.x.send(s, d.x.count(7) + 1), 0); break;
            case 6: d.due("send", d.x.send(6, 1), 0); break;
            case 7: d.due("fetch", d.x.fetch(-1), 0); break;
            case 8: d.due("fetch of one that waits or is not open", state > 0 && state < 4 ? 0 : d.x.fetch(s), 0); break;
            case 9: d.due("cancel", d.x.cancel(6), false); break;
            case 10: d.due("cancel of one that does not wait", state >= 4 ? false : d.x.cancel(s), false); break;
            case 11: d.due("charge", d.x.charge(-1), false); break;
            case 12: d.due("charge", d.x.charge(1000), false); break;
            case 13: d.due("charge while down", up ? false : d.x.charge(0), false); break;
            case 14: d.due("start while up", up ? d.x.start() : false, false); break;
            default: d.due("rings, states and counts of none", d.x.rings() + d.x.state(6) + d.x.count(9), -2); break;
        }
    }

    private static void step(Desk d, String call, String want) {
        String[] part = call.split(" ", 3);
        int s = part.length > 1 ? Integer.parseInt(part[1]) : 0;
        switch (part[0]) {
            case "q": d.ask(s, part[2], want); break;
            case "a": d.then(s, want); break;
            case "o": d.due(call, d.x.open(s) ? 1 : 0, want); break;
            case "c": d.due(call, d.x.close(s) ? 1 : 0, want); break;
            case "x": d.due(call, d.x.cancel(s) ? 1 : 0, want); break;
            case "g": d.due(call, d.x.charge(s) ? 1 : 0, want); break;
            case "u": d.due(call, d.x.start() ? 1 : 0, want); break;
            case "s": d.due("states", all(d, true), want); break;
            default: d.due("counts", all(d, false), want); break;
        }
    }

    private static String all(Desk d, boolean states) {
        StringBuilder b = new StringBuilder();
        for (int i = 0; i < (states ? 6 : 9); i++) {
            if (states || i != 7) {
                b.append(i > 0 ? " " : "").append(states ? d.x.state(i) : d.x.count(i));
            }
        }
        return b.toString();
    }
}
