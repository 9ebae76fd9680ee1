import java.lang.management.ManagementFactory;

/** All calls of one run live in one room: what a whole run makes stays far below 7.3 million fields and elements. */
public final class RoomTest {
    public static void main(String[] args) {
        com.sun.management.ThreadMXBean room = (com.sun.management.ThreadMXBean) ManagementFactory.getThreadMXBean();
        long id = Thread.currentThread().getId();
        Desk d = Desk.with("room", 6);
        d.ask(0, "CREATE TABLE t (k INT, s TEXT)", "CREATE I");
        d.ask(0, "INSERT INTO t VALUES (1,'a'),(2,'b'),(3,'c'),(4,'d'),(5,'e'),(6,'f')", "INSERT 6 I");
        d.ask(0, "PREPARE p AS INSERT INTO t SELECT a.k, b.s FROM t a, t b, t c WHERE a.k < $1 AND a.s <> 'x' || b.s",
            "PREPARE I");
        long before = room.getThreadAllocatedBytes(id);
        SessionServer y = new SessionServer();
        long made = room.getThreadAllocatedBytes(id) - before;
        d.due("a new object's bytes", made < 4000000 ? "few" : String.valueOf(made), "few");
        // Large statements of each kind, the text being fed outside of what is measured.
        long all = 0;
        String[] texts = {"EXECUTE p (9)", "DELETE FROM t WHERE k > 6 OR s = 'zz'", "VACUUM t",
            "SELECT a.s, COUNT(*) FROM t a, t b, t c GROUP BY a.s ORDER BY 2 DESC LIMIT 3",
            "SELECT DISTINCT a.k + b.k FROM t a, t b WHERE a.k IN (1, 2, 3) ORDER BY 1", "EXECUTE p (4)"};
        for (int i = 0; i < 12; i++) {
            feed(d, texts[i % texts.length]);
            before = room.getThreadAllocatedBytes(id);
            int sent = d.x.send(0, texts[i % texts.length].length());
            long f = d.x.fetch(0);
            all += room.getThreadAllocatedBytes(id) - before;
            d.due("sent", sent == 1 && f != 0, true);
        }
        d.due("bytes of 12 large calls", all < 2000000 ? "few" : String.valueOf(all), "few");
        d.due("the other object", y.count(0), 1);
        Desk.end("RoomTest");
    }

    private static void feed(Desk d, String text) {
        for (int i = 0; i < text.length(); i += 20) {
            int[] v = new int[5];
            for (int k = 0; k < 20; k++) {
                v[k / 4] = v[k / 4] << 8 | (i + k < text.length() ? text.charAt(i + k) : 0);
            }
            d.x.feed(v[0], v[1], v[2], v[3], v[4]);
        }
    }
}
