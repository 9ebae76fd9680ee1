/** Promises 2 to 12 when the power goes: points, what is there again, counts, VACUUM. */
public final class PowerTest {
    public static void main(String[] args) {
        down();
        insertPoints();
        updatePoints();
        catalogPoints();
        counts();
        others();
        vacuum();
        rolledBack();
        Desk.end("PowerTest");
    }

    private static Desk desk(String name) {
        Desk d = Desk.with(name, 3);
        d.ask(0, "CREATE TABLE t (k INT UNIQUE, v INT)", "CREATE I");
        d.ask(0, "INSERT INTO t VALUES (1,10),(2,20)", "INSERT 2 I");
        return d;
    }

    private static void up(Desk d) {
        d.count(0, 0);
        d.due("start", d.x.start(), true);
        d.due("start again", d.x.start(), false);
        d.due("open 0", d.x.open(0), true);
    }

    private static void down() {
        Desk d = desk("down");
        d.due("charge -1", d.x.charge(-1), false);
        d.due("charge 1000", d.x.charge(1000), false);
        d.due("charge 999", d.x.charge(999), true);
        d.due("charge 0", d.x.charge(0), true);
        d.ask(1, "SELECT v FROM t", "i (10) (20) SELECT 2 I");
        d.send(1, "SELECT v FROM t");
        d.ask(2, "BEGIN", "BEGIN T");
        d.ask(2, "PREPARE p AS SELECT k FROM t", "PREPARE T");
        d.ask(0, "INSERT INTO t VALUES (3, 30)", "power");
        for (int s = 0; s < 6; s++) {
            d.state(s, 0);
            d.due("open " + s, d.x.open(s), false);
            d.due("close " + s, d.x.close(s), false);
            d.due("cancel " + s, d.x.cancel(s), false);
            d.due("fetch " + s, d.x.fetch(s), 0);
        }
        d.state(6, -1);
        for (int what = 0; what <= 8; what++) {
            d.count(what, 0);
        }
        d.count(9, -1);
        d.count(-1, -1);
        d.due("charge", d.x.charge(1), false);
        d.due("rings", d.x.rings(), 0);
        d.due("feed", d.x.feed(1, 2, 3, 4, 5), true);
        d.count(7, 20);
        d.due("send", d.x.send(0, 20), 0);
        d.due("start", d.x.start(), true);
        d.due("start", d.x.start(), false);
        d.count(0, 1);
        d.count(7, 20);
        d.state(2, 0);
        d.x.open(2);
        d.due("send", d.x.send(2, 20), 1);
        d.then(2, "42601 I");
        d.ask(2, "EXECUTE p", "26000 I");
        d.ask(2, "SELECT * FROM t", "ii (1,10) (2,20) SELECT 2 I");
    }

    private static void insertPoints() {
        // Two rows are four points: each version, before the commit, behind it.
        for (int n = 0; n <= 4; n++) {
            Desk d = desk("insert, charge " + n);
            d.due("charge", d.x.charge(n), true);
            d.ask(0, "INSERT INTO t VALUES (3,30),(4,40)", n < 4 ? "power" : "INSERT 2 I");
            if (n < 4) {
                up(d);
            }
            d.ask(0, "SELECT k FROM t", n < 3 ? "i (1) (2) SELECT 2 I" : "i (1) (2) (3) (4) SELECT 4 I");
            d.count(1, n < 3 ? 2 : 4);
            d.count(2, n < 3 ? 2 : 4);
            d.count(3, n < 3 ? 1 : 2);
            d.count(4, n < 3 ? 1 : 2);
        }
    }

    private static void updatePoints() {
        // BEGIN; two updates of one row each, a delete, a savepoint undone, COMMIT: 2 + 2 + 1 + 2 + 2 points.
        for (int n = 0; n <= 9; n++) {
            Desk d = desk("update, charge " + n);
            d.due("charge", d.x.charge(n), true);
            d.ask(0, "BEGIN", "BEGIN T");
            d.ask(0, "UPDATE t SET v = 11 WHERE k = 1", n < 2 ? "power" : "UPDATE 1 T");
            if (n >= 2) {
                d.ask(0, "UPDATE t SET k = 3 WHERE k = 2", n < 4 ? "power" : "UPDATE 1 T");
            }
            if (n >= 4) {
                d.ask(0, "DELETE FROM t WHERE k = 3", n < 5 ? "power" : "DELETE 1 T");
            }
            if (n >= 5) {
                d.ask(0, "SAVEPOINT a", "SAVEPOINT T");
                d.ask(0, "UPDATE t SET v = 12 WHERE k = 1", n < 7 ? "power" : "UPDATE 1 T");
            }
            if (n >= 7) {
                d.ask(0, "ROLLBACK TO a", "ROLLBACK T");
                d.ask(0, "COMMIT", n < 9 ? "power" : "COMMIT I");
            }
            if (n < 9) {
                up(d);
                d.count(1, n < 8 ? 2 : 1);
            }
            d.ask(0, "SELECT * FROM t", n < 8 ? "ii (1,10) (2,20) SELECT 2 I" : "ii (1,11) SELECT 1 I");
            d.count(2, n < 8 ? 2 : 5);
            d.count(3, n < 8 ? 1 : 3);
        }
        // A transaction that only read, or none of whose numbers runs, has no points.
        Desk d = desk("no points");
        d.x.charge(0);
        d.ask(0, "BEGIN", "BEGIN T");
        d.ask(0, "SELECT COUNT(*) FROM t", "i (2) SELECT 1 T");
        d.ask(0, "UPDATE t SET v = 1 WHERE k = 9", "UPDATE 0 T");
        d.ask(0, "COMMIT", "COMMIT I");
        d.ask(0, "BEGIN", "BEGIN T");
        d.ask(0, "SELECT k FROM t WHERE k = 1 FOR UPDATE", "i (1) SELECT 1 T");
        d.ask(0, "ROLLBACK", "ROLLBACK I");
        d.ask(0, "SELECT k FROM t WHERE k = 1 FOR UPDATE", "power");
    }

    private static void catalogPoints() {
        String[] texts = {"CREATE TABLE u (a INT UNIQUE)", "CREATE INDEX ON t (v)", "DROP TABLE t", "CHECKPOINT",
            "VACUUM t"};
        int[] tables = {2, 1, 0, 1, 1};
        int[] indexes = {2, 2, 0, 1, 1};
        for (int i = 0; i < texts.length; i++) {
            for (int n = 0; n <= 2; n++) {
                Desk d = desk(texts[i] + ", charge " + n);
                d.ask(1, "INSERT INTO t VALUES (5, 5), (1, 1)", "23505 I");
                d.count(2, 3);
                d.count(3, 2);
                d.x.charge(n);
                d.due(texts[i], d.send(0, texts[i]), n < 2 ? 3 : 1);
                if (n < 2) {
                    up(d);
                }
                boolean done = n > 0;
                d.count(5, done ? tables[i] : 1);
                d.count(6, done ? indexes[i] : 1);
                // The counts are those of the last commit until the second point is behind.
                d.count(2, n < 2 ? 2 : 3);
                d.count(3, n < 2 ? 1 : 2);
                boolean left = n == 2 && !texts[i].equals("VACUUM t");
                d.count(1, i == 2 && done ? 0 : left ? 3 : 2);
            }
        }
    }

    private static void counts() {
        Desk d = desk("counts");
        d.ask(1, "BEGIN", "BEGIN T");
        d.ask(1, "INSERT INTO t VALUES (5, 5)", "INSERT 1 T");
        d.ask(0, "INSERT INTO t VALUES (6, 6)", "INSERT 1 I");
        d.ask(1, "INSERT INTO t VALUES (7, 7)", "INSERT 1 T");
        d.ask(2, "INSERT INTO t VALUES (8, 8), (1, 1)", "23505 I");
        d.count(2, 6);
        d.count(3, 4);
        d.count(4, 2);
        d.x.charge(0);
        d.ask(2, "CHECKPOINT", "power");
        up(d);
        // What was there when the last commit was between its points: the first insert of session 1, too.
        d.count(1, 3);
        d.count(2, 4);
        d.count(3, 3);
        d.count(4, 2);
        d.ask(0, "INSERT INTO t VALUES (5, 5)", "INSERT 1 I");
        d.count(2, 5);
        d.count(3, 4);
        d.count(4, 3);
        d.ask(0, "SELECT * FROM t", "ii (1,10) (2,20) (5,5) (6,6) SELECT 4 I");
        // Ends and locks of what is gone are gone.
        d.ask(0, "BEGIN", "BEGIN T");
        d.ask(0, "DELETE FROM t", "DELETE 4 T");
        d.x.charge(0);
        d.x.open(1);
        d.ask(1, "CHECKPOINT", "power");
        up(d);
        d.ask(0, "UPDATE t SET v = 0", "UPDATE 4 I");
        d.count(1, 8);
        d.count(3, 5);
    }

    private static void others() {
        // The power goes in what another session goes on with.
        for (int way = 0; way < 3; way++) {
            Desk d = desk("others " + way);
            d.ask(1, "BEGIN", "BEGIN T");
            d.ask(1, "LOCK t SHARE", "LOCK T");
            d.ask(0, "DELETE FROM t", "waits");
            d.x.charge(way);
            if (way == 0) {
                d.ask(1, "COMMIT", "power");
            } else {
                d.due("close", d.x.close(1), true);
            }
            up(d);
            d.ask(0, "SELECT COUNT(*) FROM t", "i (2) SELECT 1 I");
        }
        Desk d = desk("others, cancel");
        d.ask(1, "BEGIN", "BEGIN T");
        d.ask(1, "SELECT k FROM t", "i (1) (2) SELECT 2 T");
        d.ask(0, "DROP TABLE t", "waits");
        d.ask(2, "DELETE FROM t", "waits");
        d.x.charge(3);
        d.due("cancel", d.x.cancel(0), true);
        d.count(0, 0);
        up(d);
        d.ask(0, "SELECT COUNT(*) FROM t", "i (0) SELECT 1 I");
        d.count(4, 2);
        d.count(1, 0);
    }

    private static void vacuum() {
        Desk d = desk("vacuum");
        d.ask(1, "BEGIN REPEATABLE READ", "BEGIN T");
        d.ask(1, "SELECT COUNT(*) FROM t", "i (2) SELECT 1 T");
        d.ask(0, "UPDATE t SET v = v + 1", "UPDATE 2 I");
        d.ask(0, "VACUUM t", "VACUUM 0 I");
        d.ask(0, "INSERT INTO t VALUES (9, 9), (1, 1)", "23505 I");
        d.ask(0, "VACUUM t", "VACUUM 1 I");
        d.ask(2, "BEGIN", "BEGIN T");
        d.ask(2, "SELECT COUNT(*) FROM t", "i (2) SELECT 1 T");
        d.ask(0, "UPDATE t SET v = v + 1", "UPDATE 2 I");
        d.ask(1, "COMMIT", "COMMIT I");
        // The first versions are dead for 2, whose latest statement saw the second ones.
        d.ask(0, "VACUUM t", "VACUUM 2 I");
        d.count(1, 4);
        d.ask(0, "VACUUM t", "VACUUM 0 I");
        d.ask(2, "SELECT * FROM t", "ii (1,12) (2,22) SELECT 2 T");
        d.ask(0, "VACUUM t", "VACUUM 2 I");
        // As long as it has a snapshot: an error at level 0 takes it.
        d.ask(0, "DELETE FROM t WHERE k = 1", "DELETE 1 I");
        d.ask(0, "VACUUM t", "VACUUM 0 I");
        d.ask(2, "nonsense", "42601 F");
        d.ask(0, "VACUUM t", "VACUUM 1 I");
        // What a running one ended is not dead.
        d.ask(1, "BEGIN", "BEGIN T");
        d.ask(1, "DELETE FROM t", "DELETE 1 T");
        d.ask(0, "VACUUM t", "VACUUM 0 I");
        d.ask(1, "COMMIT", "COMMIT I");
        d.ask(0, "VACUUM t", "VACUUM 1 I");
        d.count(1, 0);
        // Another table's dead stay.
        d.ask(0, "CREATE TABLE u (k INT)", "CREATE I");
        d.ask(0, "INSERT INTO u VALUES (1)", "INSERT 1 I");
        d.ask(0, "DELETE FROM u", "DELETE 1 I");
        d.ask(0, "VACUUM t", "VACUUM 0 I");
        d.count(1, 1);
        d.ask(0, "DROP TABLE u", "DROP I");
        d.count(1, 0);
    }

    private static void rolledBack() {
        Desk d = desk("rolled back");
        d.ask(0, "BEGIN", "BEGIN T");
        d.ask(0, "UPDATE t SET v = 1 WHERE k = 1", "UPDATE 1 T");
        d.ask(0, "SAVEPOINT a", "SAVEPOINT T");
        d.ask(0, "DELETE FROM t", "DELETE 2 T");
        d.ask(0, "ROLLBACK TO a", "ROLLBACK T");
        d.x.charge(1);
        d.ask(0, "COMMIT", "power");
        up(d);
        d.ask(0, "SELECT * FROM t", "ii (1,1) (2,20) SELECT 2 I");
        d.count(1, 2);
        d.count(3, 3);
        d.count(4, 2);
        d.ask(0, "DELETE FROM t", "DELETE 2 I");
        d.count(3, 4);
    }
}
