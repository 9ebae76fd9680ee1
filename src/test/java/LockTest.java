/** Promises 4, 5, 7, 10 and 12: table locks, the order of waiting, rings, cancel and close. */
public final class LockTest {
    private static final String[] MODES = {"ACCESS SHARE", "ROW SHARE", "ROW EXCLUSIVE", "SHARE UPDATE EXCLUSIVE",
        "SHARE", "SHARE ROW EXCLUSIVE", "EXCLUSIVE", "ACCESS EXCLUSIVE"};
    // By mode, a digit for each that it conflicts with.
    private static final String[] CONFLICTS = {"8", "78", "5678", "45678", "34678", "345678", "2345678", "12345678"};

    public static void main(String[] args) {
        modes();
        statements();
        queue();
        alreadyHeld();
        levels();
        dropped();
        rings();
        cancelled();
        closed();
        resumed();
        Desk.end("LockTest");
    }

    private static Desk desk(String name) {
        Desk d = Desk.with(name, 6);
        d.ask(0, "CREATE TABLE t (k INT UNIQUE, v INT)", "CREATE I");
        d.ask(0, "CREATE TABLE u (k INT)", "CREATE I");
        d.ask(0, "INSERT INTO t VALUES (1,10),(2,20)", "INSERT 2 I");
        return d;
    }

    private static void modes() {
        for (int held = 1; held <= 8; held++) {
            Desk d = desk("mode " + held);
            d.ask(0, "BEGIN", "BEGIN T");
            d.ask(0, "LOCK t " + MODES[held - 1], "LOCK T");
            for (int asked = 1; asked <= 8; asked++) {
                boolean against = CONFLICTS[held - 1].indexOf('0' + asked) >= 0;
                d.ask(1, "BEGIN", "BEGIN T");
                d.ask(1, "LOCK t " + MODES[asked - 1], against ? "waits" : "LOCK T");
                d.x.close(1);
                d.x.open(1);
                d.ask(0, "LOCK u " + MODES[asked - 1], "LOCK T");
            }
        }
    }

    private static void statements() {
        // Each statement and its mode: it waits for just what conflicts with that.
        String[] texts = {"SELECT k FROM t", "SELECT k FROM t FOR SHARE", "INSERT INTO t VALUES (7, 7)",
            "UPDATE t SET v = 1 WHERE k = 2", "DELETE FROM t WHERE k = 2", "VACUUM t", "CREATE INDEX ON t (v)",
            "DROP TABLE t", "INSERT INTO u SELECT k FROM t", "SELECT u.k FROM u, t", "SELECT k FROM t FOR UPDATE"};
        int[] modes = {1, 2, 3, 3, 3, 4, 5, 8, 1, 1, 2};
        for (int i = 0; i < texts.length; i++) {
            for (int held = 1; held <= 8; held++) {
                Desk d = desk(texts[i] + " against " + held);
                d.ask(0, "BEGIN", "BEGIN T");
                d.ask(0, "LOCK t " + MODES[held - 1], "LOCK T");
                boolean against = CONFLICTS[held - 1].indexOf('0' + modes[i]) >= 0;
                d.due(texts[i], d.send(1, texts[i]), against ? 2 : 1);
                d.state(1, against ? 5 : 1);
                d.ask(0, "COMMIT", "COMMIT I");
                d.state(1, 1);
                d.due("answered", d.answer(1).startsWith("4"), false);
            }
        }
    }

    private static void queue() {
        Desk d = desk("queue");
        d.ask(0, "BEGIN", "BEGIN T");
        d.ask(0, "SELECT k FROM t", "i (1) (2) SELECT 2 T");
        d.ask(1, "BEGIN", "BEGIN T");
        d.ask(1, "LOCK t ACCESS EXCLUSIVE", "waits");
        // Behind one that asked earlier, and so on.
        d.ask(2, "SELECT k FROM t", "waits");
        d.ask(3, "INSERT INTO t VALUES (3, 3)", "waits");
        d.ask(4, "CREATE INDEX ON t (v)", "waits");
        d.ask(5, "SELECT COUNT(*) FROM t", "waits");
        d.count(8, 5);
        // What it holds already it has at once.
        d.ask(0, "SELECT v FROM t", "i (10) (20) SELECT 2 T");
        d.ask(0, "COMMIT", "COMMIT I");
        d.then(1, "LOCK T");
        d.count(8, 4);
        d.ask(1, "ROLLBACK", "ROLLBACK I");
        d.then(2, "i (1) (2) SELECT 2 I");
        d.then(3, "INSERT 1 I");
        d.then(4, "CREATE I");
        d.then(5, "i (3) SELECT 1 I");
        d.count(6, 2);
    }

    private static void alreadyHeld() {
        Desk d = desk("already held");
        d.ask(0, "BEGIN", "BEGIN T");
        d.ask(0, "LOCK t ACCESS SHARE", "LOCK T");
        d.ask(1, "BEGIN", "BEGIN T");
        d.ask(1, "LOCK t ACCESS EXCLUSIVE", "waits");
        d.ask(0, "LOCK t ACCESS SHARE", "LOCK T");
        // Another mode would have to wait behind 1, which waits on 0.
        d.ask(0, "LOCK t ROW SHARE", "40P01 F");
        d.then(1, "LOCK T");
        d.ask(0, "ROLLBACK", "ROLLBACK I");
        d.ask(1, "LOCK t SHARE", "LOCK T");
        d.ask(1, "SELECT k FROM t", "i (1) (2) SELECT 2 T");
    }

    private static void levels() {
        Desk d = desk("levels");
        d.ask(0, "BEGIN", "BEGIN T");
        d.ask(0, "LOCK u SHARE", "LOCK T");
        d.ask(0, "SAVEPOINT a", "SAVEPOINT T");
        d.ask(0, "LOCK t SHARE", "LOCK T");
        d.ask(1, "DELETE FROM t", "waits");
        d.ask(2, "DELETE FROM u", "waits");
        d.ask(0, "ROLLBACK TO a", "ROLLBACK T");
        d.then(1, "DELETE 2 I");
        d.state(2, 5);
        d.ask(0, "LOCK t SHARE", "LOCK T");
        d.ask(1, "DELETE FROM t", "waits");
        d.ask(0, "RELEASE a", "RELEASE T");
        d.state(1, 5);
        d.ask(0, "SAVEPOINT b", "SAVEPOINT T");
        d.ask(0, "LOCK t SHARE", "LOCK T");
        d.ask(0, "nonsense", "42601 F");
        d.state(1, 5);
        d.state(2, 5);
        d.ask(0, "ROLLBACK", "ROLLBACK I");
        d.then(1, "DELETE 0 I");
        d.then(2, "DELETE 0 I");
        // An error at a savepoint frees its locks.
        d.ask(0, "BEGIN", "BEGIN T");
        d.ask(0, "SAVEPOINT a", "SAVEPOINT T");
        d.ask(0, "LOCK t SHARE", "LOCK T");
        d.ask(1, "DELETE FROM t", "waits");
        d.ask(0, "SELECT 1 FROM nosuch", "42P01 F");
        d.then(1, "DELETE 0 I");
    }

    private static void dropped() {
        Desk d = desk("dropped");
        d.ask(0, "BEGIN", "BEGIN T");
        d.ask(0, "SELECT k FROM t", "i (1) (2) SELECT 2 T");
        d.ask(1, "DROP TABLE t", "waits");
        d.ask(2, "SELECT k FROM t", "waits");
        d.ask(3, "BEGIN", "BEGIN T");
        d.ask(3, "INSERT INTO u SELECT k FROM t", "waits");
        d.ask(4, "VACUUM t", "waits");
        d.ask(5, "CREATE TABLE x (k INT)", "CREATE I");
        d.ask(0, "COMMIT", "COMMIT I");
        d.then(1, "DROP I");
        d.then(2, "42P01 I");
        d.then(3, "42P01 F");
        d.then(4, "42P01 I");
        d.count(5, 2);
        d.count(6, 0);
        d.count(1, 0);
        // One that comes to a dropped table behind another wait; a new one of that name is another one.
        d.ask(3, "ROLLBACK", "ROLLBACK I");
        d.ask(0, "BEGIN", "BEGIN T");
        d.ask(0, "LOCK u ACCESS EXCLUSIVE", "LOCK T");
        d.ask(1, "SELECT 1 FROM u, x", "waits");
        d.ask(2, "DROP TABLE x", "DROP I");
        d.ask(2, "CREATE TABLE x (k INT)", "CREATE I");
        d.ask(0, "COMMIT", "COMMIT I");
        d.then(1, "42P01 I");
        d.ask(1, "SELECT 1 FROM u, x", "i SELECT 0 I");
    }

    private static void rings() {
        Desk d = desk("rings");
        d.ask(0, "BEGIN", "BEGIN T");
        d.ask(1, "BEGIN", "BEGIN T");
        d.ask(2, "BEGIN", "BEGIN T");
        d.ask(0, "UPDATE t SET v = 1 WHERE k = 1", "UPDATE 1 T");
        d.ask(1, "UPDATE t SET v = 1 WHERE k = 2", "UPDATE 1 T");
        d.ask(2, "LOCK u EXCLUSIVE", "LOCK T");
        d.ask(0, "UPDATE t SET v = 1 WHERE k = 2", "waits");
        d.ask(1, "INSERT INTO u VALUES (1)", "waits");
        d.ask(3, "UPDATE t SET v = 3 WHERE k = 1", "waits");
        d.ask(2, "SAVEPOINT a", "SAVEPOINT T");
        d.ask(2, "DELETE FROM t WHERE k = 1", "40P01 F");
        d.ask(2, "ROLLBACK TO a", "ROLLBACK T");
        d.count(8, 3);
        d.ask(2, "COMMIT", "COMMIT I");
        d.then(1, "INSERT 1 T");
        d.ask(1, "COMMIT", "COMMIT I");
        d.then(0, "UPDATE 1 T");
        d.ask(0, "COMMIT", "COMMIT I");
        d.then(3, "UPDATE 1 I");
        // Statements without a transaction hold locks that are waited on.
        d.ask(0, "BEGIN", "BEGIN T");
        d.ask(0, "LOCK t SHARE", "LOCK T");
        d.ask(1, "INSERT INTO u SELECT k FROM u WHERE k = 99", "INSERT 0 I");
        d.ask(2, "SELECT 1 FROM u, t", "i (1) (1) SELECT 2 I");
        d.ask(0, "LOCK t ACCESS EXCLUSIVE", "LOCK T");
        d.ask(2, "SELECT 1 FROM u, t", "waits");
        d.ask(0, "LOCK u ACCESS EXCLUSIVE", "40P01 F");
        d.then(2, "i (1) (1) SELECT 2 I");
    }

    private static void cancelled() {
        Desk d = desk("cancelled");
        d.ask(0, "BEGIN", "BEGIN T");
        d.ask(0, "SELECT k FROM t FOR UPDATE", "i (1) (2) SELECT 2 T");
        d.ask(1, "LOCK t SHARE", "25P01 I");
        d.ask(1, "BEGIN", "BEGIN T");
        d.ask(1, "UPDATE t SET v = 0", "waits");
        d.due("send while it waits", d.send(1, "COMMIT"), 0);
        d.count(7, 20);
        d.due("fetch while it waits", d.x.fetch(1), 0);
        d.due("cancel", d.x.cancel(1), true);
        d.due("cancel again", d.x.cancel(1), false);
        d.due("the tape is still there", d.x.send(1, 6), 1);
        d.then(1, "COMMIT I");
        d.ask(2, "CREATE INDEX ON t (v)", "CREATE I");
        d.ask(1, "DROP TABLE t", "waits");
        d.ask(2, "SELECT COUNT(*) FROM t", "waits");
        d.due("cancel", d.x.cancel(1), true);
        d.then(1, "57014 I");
        d.then(2, "i (2) SELECT 1 I");
        d.due("cancel of one that does not wait", d.x.cancel(0), false);
        d.due("cancel of none", d.x.cancel(6), false);
        // What had come of an answer is gone.
        d.ask(3, "BEGIN", "BEGIN T");
        d.ask(3, "INSERT INTO t VALUES (0, 0)", "INSERT 1 T");
        d.ask(3, "SELECT k FROM t FOR SHARE", "waits");
        d.due("cancel", d.x.cancel(3), true);
        d.then(3, "57014 F");
        d.ask(3, "COMMIT", "COMMIT I");
    }

    private static void closed() {
        Desk d = desk("closed");
        d.ask(0, "BEGIN", "BEGIN T");
        d.ask(0, "LOCK t SHARE", "LOCK T");
        d.ask(1, "INSERT INTO t VALUES (5, 5)", "waits");
        d.ask(2, "LOCK t EXCLUSIVE", "25P01 I");
        d.ask(2, "VACUUM t", "waits");
        d.ask(3, "SELECT k FROM t", "i (1) (2) SELECT 2 I");
        d.due("close of one that waits", d.x.close(1), true);
        d.state(1, 0);
        d.state(2, 5);
        d.due("close of one that holds", d.x.close(0), true);
        d.then(2, "VACUUM 0 I");
        d.ask(3, "SELECT k FROM t", "i (1) (2) SELECT 2 I");
    }

    private static void resumed() {
        Desk d = desk("resumed");
        // Who waits again is the last one: 1 and 2 wait for row 1, then 1 for row 2.
        d.ask(0, "BEGIN", "BEGIN T");
        d.ask(0, "UPDATE t SET v = 0 WHERE k = 1", "UPDATE 1 T");
        d.ask(3, "BEGIN", "BEGIN T");
        d.ask(3, "SELECT k FROM t WHERE k = 2 FOR UPDATE", "i (2) SELECT 1 T");
        d.ask(1, "UPDATE t SET v = v + 1", "waits");
        d.ask(2, "UPDATE t SET v = v * 10 WHERE k = 2", "waits");
        d.ask(0, "COMMIT", "COMMIT I");
        d.state(1, 5);
        d.state(2, 5);
        d.ask(3, "COMMIT", "COMMIT I");
        d.then(2, "UPDATE 1 I");
        d.then(1, "UPDATE 2 I");
        d.ask(0, "SELECT * FROM t", "ii (1,1) (2,201) SELECT 2 I");
    }
}
