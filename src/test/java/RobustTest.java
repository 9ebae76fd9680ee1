import java.util.Random;

/** No call throws, whatever comes, and what can be seen from outside holds together: all promises. */
public final class RobustTest {
    private static final String[] TOKENS = ("CREATE TABLE NOT NULL UNIQUE INT TEXT BOOL INDEX ON DROP INSERT INTO "
        + "VALUES UPDATE SET WHERE DELETE FROM SELECT DISTINCT GROUP BY ORDER DESC LIMIT FOR SHARE BEGIN READ COMMITTED "
        + "REPEATABLE SERIALIZABLE COMMIT ROLLBACK SAVEPOINT TO RELEASE LOCK PREPARE AS EXECUTE VACUUM CHECKPOINT ACCESS "
        + "ROW EXCLUSIVE OR AND IS BETWEEN IN TRUE FALSE COUNT SUM MIN MAX ( ) , . ; * = <> < <= > >= + - / % || "
        + "t u k v s 1 2 0 999999999999999999 'a' '' $1 $2").split(" ");
    private static final String[] STATEMENTS = {
        "CREATE TABLE t (k INT UNIQUE, v INT)", "CREATE TABLE u (k INT, s TEXT)", "CREATE INDEX ON u (k)",
        "DROP TABLE u", "INSERT INTO t VALUES (#, #)", "INSERT INTO u VALUES (#, 'x')",
        "INSERT INTO t SELECT k + #, # FROM u", "UPDATE t SET v = v + # WHERE k = #", "UPDATE t SET k = # WHERE k > #",
        "UPDATE u SET s = s || 'y' WHERE k < #", "DELETE FROM t WHERE k = #", "DELETE FROM u WHERE k BETWEEN # AND #",
        "SELECT * FROM t", "SELECT t.k, s FROM t, u WHERE t.k = u.k", "SELECT k, COUNT(*) FROM u GROUP BY k",
        "SELECT v FROM t WHERE k = # FOR UPDATE", "SELECT v FROM t WHERE k = # FOR SHARE", "BEGIN",
        "BEGIN REPEATABLE READ", "BEGIN SERIALIZABLE", "BEGIN SERIALIZABLE", "COMMIT", "COMMIT", "ROLLBACK",
        "SAVEPOINT a", "ROLLBACK TO a", "RELEASE a", "LOCK t SHARE", "LOCK u EXCLUSIVE", "VACUUM t", "CHECKPOINT",
        "PREPARE p AS SELECT v FROM t WHERE k = $1", "EXECUTE p (#)", "SELECT SUM(v) FROM t",
    };

    public static void main(String[] args) {
        for (int seed = 0; seed < 400; seed++) {
            run(new Desk("run " + seed), new Random(seed), seed % 3);
        }
        Desk.end("RobustTest");
    }

    private static void run(Desk d, Random r, int way) {
        int calls = 0;
        d.limit = Integer.MAX_VALUE;
        while (calls < 500) {
            int s = r.nextInt(20) == 0 ? r.nextInt() : r.nextInt(6);
            switch (r.nextInt(16)) {
                case 0: d.x.open(s); break;
                case 1: if (r.nextInt(4) == 0) { d.x.close(s); } break;
                case 2: d.x.cancel(s); break;
                case 3: if (r.nextInt(3) == 0) { d.x.charge(r.nextInt(12)); } break;
                case 4: d.x.start(); break;
                case 5: d.x.fetch(s); d.x.send(s, r.nextInt()); break;
                case 6: d.x.feed(r.nextInt(), r.nextInt(), r.nextInt(), r.nextInt(), r.nextInt()); break;
                default:
                    if (d.x.count(7) == 0) {
                        calls += ask(d, r, s, text(r, way));
                    } else {
                        d.x.send(r.nextInt(6), 1 + r.nextInt(20));
                    }
                    break;
            }
            calls++;
            look(d);
        }
    }

    private static String text(Random r, int way) {
        StringBuilder b = new StringBuilder();
        if (way == 0) {
            for (int i = r.nextInt(30); i >= 0; i--) {
                b.append(TOKENS[r.nextInt(TOKENS.length)]).append(r.nextInt(4) == 0 ? "" : " ");
            }
            return b.toString();
        }
        String text = STATEMENTS[r.nextInt(STATEMENTS.length)];
        for (int i = 0; i < text.length(); i++) {
            b.append(text.charAt(i) == '#' ? String.valueOf(r.nextInt(6)) : text.substring(i, i + 1));
        }
        if (way == 2 && r.nextInt(3) == 0) {
            b.insert(r.nextInt(b.length()), TOKENS[r.nextInt(TOKENS.length)]);
        }
        return b.toString();
    }

    private static int ask(Desk d, Random r, int s, String text) {
        int state = d.x.state(s);
        int sent = d.send(s, text);
        boolean due = sent == 0 ? state <= 0 || state >= 4 : state > 0 && state < 4;
        d.due("send " + text + " in state " + state, due, true);
        d.due("down", d.x.count(0), sent == 3 || sent == 0 && d.x.count(0) == 0 ? 0 : 1);
        if (sent == 1 && r.nextInt(4) > 0) {
            byte[] b = d.bytes(s);
            d.due("the last frame", b.length > 4 && b[b.length - 4] == 'Z'
                && b[b.length - 1] == " ITF".charAt(d.x.state(s)), true);
        }
        return 4;
    }

    private static void look(Desk d) {
        int waiting = 0;
        for (int s = 0; s < 6; s++) {
            int state = d.x.state(s);
            d.due("state", state >= 0 && state <= 6 && state != 4, true);
            waiting += state >= 4 ? 1 : 0;
        }
        d.due("sessions that wait", d.x.count(8), waiting);
        d.due("not all wait", waiting < 6, true);
        d.due("versions", d.x.count(1) <= d.x.count(2) && d.x.count(2) <= 12000, true);
        d.due("commits", d.x.count(4) <= d.x.count(3), true);
        d.due("tables", d.x.count(5) <= 8 && d.x.count(6) <= 8, true);
        d.due("rings", d.x.rings(), 0);
    }
}
