/** Promises 1 to 12 call by call: ordinary inputs, edges and wrong inputs. */
public final class CallsTest {
    public static void main(String[] args) {
        newObject();
        feed();
        sessions();
        messages();
        fetches();
        Desk.end("CallsTest");
    }

    private static void newObject() {
        Desk d = new Desk("new object");
        d.count(0, 1);
        for (int what = 1; what <= 8; what++) {
            d.count(what, 0);
        }
        d.count(-1, -1);
        d.count(9, -1);
        for (int s = 0; s < 6; s++) {
            d.state(s, 0);
        }
        d.state(-1, -1);
        d.state(6, -1);
        d.due("rings", d.x.rings(), 0);
        d.due("start", d.x.start(), false);
    }

    private static void feed() {
        Desk d = new Desk("feed");
        for (int i = 1; i <= 100; i++) {
            d.due("feed " + i, d.x.feed(0, 0, 0, 0, 0), true);
            d.count(7, 20 * i);
        }
        d.due("feed 101", d.x.feed(0, 0, 0, 0, 0), false);
        d.count(7, 2000);
        d.due("send", d.x.send(0, 20), 0);
        d.count(7, 2000);
        d.x.open(0);
        d.due("send 0", d.x.send(0, 0), 0);
        d.due("send 2001", d.x.send(0, 2001), 0);
        d.due("send of no session", d.x.send(6, 20), 0);
        d.due("send 2000", d.x.send(0, 2000), 1);
        d.count(7, 0);
        d.then(0, "42601 I");
    }

    private static void sessions() {
        Desk d = new Desk("sessions");
        d.due("open -1", d.x.open(-1), false);
        d.due("open 6", d.x.open(6), false);
        d.due("open 5", d.x.open(5), true);
        d.due("open 5 again", d.x.open(5), false);
        d.state(5, 1);
        d.ask(5, "BEGIN", "BEGIN T");
        d.state(5, 2);
        d.ask(5, "FOO", "42601 F");
        d.state(5, 3);
        d.due("close 5", d.x.close(5), true);
        d.due("close 5 again", d.x.close(5), false);
        d.due("close 6", d.x.close(6), false);
        d.due("cancel", d.x.cancel(0), false);
        d.due("cancel", d.x.cancel(-1), false);
        d.due("fetch of none", d.x.fetch(-1), 0);
        d.due("fetch of one that is not open", d.x.fetch(5), 0);
    }

    /** Feeds a text and sends its first n bytes alone. */
    private static void part(Desk d, String text, int n, String want) {
        for (int i = 0; i < text.length(); i += 20) {
            int[] v = new int[5];
            for (int k = 0; k < 20; k++) {
                v[k / 4] = v[k / 4] << 8 | (i + k < text.length() ? text.charAt(i + k) : 0);
            }
            d.x.feed(v[0], v[1], v[2], v[3], v[4]);
        }
        d.due("send " + n + " of " + text, d.x.send(0, n), 1);
        d.count(7, 0);
        d.then(0, want);
    }

    private static void messages() {
        Desk d = Desk.with("messages", 1);
        d.ask(0, "CREATE TABLE t (k INT, s TEXT)", "CREATE I");
        d.ask(0, "INSERT INTO t VALUES (12, 'a')", "INSERT 1 I");
        // What stands behind the first n bytes is no part of the message, and gone with it.
        part(d, "SELECT k FROM t LIMIT 10", 23, "i (12) SELECT 1 I");
        part(d, "SELECT k FROM t LIMIT 10", 22, "42601 I");
        part(d, "SELECT k FROM tt", 15, "i (12) SELECT 1 I");
        part(d, "SELECT k FROM t WHERE s='a''", 27, "i (12) SELECT 1 I");
        part(d, "SELECT k FROM t WHERE s='a'", 26, "42601 I");
        part(d, "PREPARE p AS SELECT $1 FROM t", 21, "42601 I");
        part(d, "SELECT k FROM t WHERE k<>5", 24, "42601 I");
        part(d, "SELECT k FROM t WHERE k<=5", 24, "42601 I");
        part(d, "SELECT k FROM t WHERE k>12", 25, "i (12) SELECT 1 I");
        part(d, "PREPARE p AS SELECT k FROM t WHERE k > 123", 41, "PREPARE I");
        d.ask(0, "EXECUTE p", "i SELECT 0 I");
        part(d, "PREPARE q AS SELECT k FROM t WHERE k > 10 AND FALSE", 41, "PREPARE I");
        d.ask(0, "EXECUTE q", "i (12) SELECT 1 I");
        StringBuilder full = new StringBuilder("SELECT k FROM t WHERE k = 12");
        while (full.length() < 2000) {
            full.append(' ');
        }
        part(d, full.toString(), 2000, "i (12) SELECT 1 I");
        part(d, full.substring(0, 1999) + ";", 2000, "i (12) SELECT 1 I");
        part(d, full.substring(0, 1999) + "'", 2000, "42601 I");
        part(d, full.substring(0, 1999) + "$", 2000, "42601 I");
        part(d, full.substring(0, 1999) + "|", 2000, "42601 I");
    }

    private static void fetches() {
        Desk d = Desk.with("fetches", 2);
        d.due("fetch", d.x.fetch(0), 0);
        d.send(0, "CREATE TABLE t (k INT)");
        // C 0 6 C R E A, T E Z 0 1 I.
        d.due("fetch", Long.toHexString(d.x.fetch(0)), "743000643524541");
        d.due("fetch of another", d.x.fetch(1), 0);
        d.due("fetch", Long.toHexString(d.x.fetch(0)), "654455a00014900");
        d.due("fetch", d.x.fetch(0), 0);
        d.send(0, "INSERT INTO t VALUES (1)");
        d.send(0, "COMMIT");
        // E 0 5 2 5 P 0, 1 Z 0 1 I: the answer before it is gone.
        d.due("fetch", Long.toHexString(d.x.fetch(0)), "745000532355030");
        d.due("fetch", Long.toHexString(d.x.fetch(0)), "5315a0001490000");
        d.due("fetch", d.x.fetch(0), 0);
        d.due("fetch of no session", d.x.fetch(6), 0);
    }
}
