/** Promises 5 and 11: serializable transactions, their reads, arrows and dangers. */
public final class SerialTest {
    public static void main(String[] args) {
        skew();
        ranges();
        ninth();
        sameRange();
        readOnly();
        doomedWhenOtherCommits();
        doomedByErrors();
        gone();
        rolledBackArrows();
        readsLater();
        uniqueReads();
        waited();
        kept();
        dropped();
        Desk.end("SerialTest");
    }

    private static Desk desk(String name) {
        Desk d = Desk.with(name, 6);
        d.ask(0, "CREATE TABLE t (k INT UNIQUE, v INT)", "CREATE I");
        d.ask(0, "CREATE TABLE u (k INT, v INT)", "CREATE I");
        d.ask(0, "INSERT INTO t VALUES (1,1),(2,1),(3,1),(10,1),(20,1)", "INSERT 5 I");
        d.ask(0, "INSERT INTO u VALUES (1,1),(2,1)", "INSERT 2 I");
        return d;
    }

    private static void begin(Desk d, int... sessions) {
        for (int s : sessions) {
            d.ask(s, "BEGIN SERIALIZABLE", "BEGIN T");
        }
    }

    private static void skew() {
        Desk d = desk("skew");
        begin(d, 0, 1);
        d.ask(0, "SELECT SUM(v) FROM u", "i (2) SELECT 1 T");
        d.ask(1, "SELECT SUM(v) FROM u", "i (2) SELECT 1 T");
        d.ask(0, "UPDATE u SET v = 0 WHERE k = 1", "UPDATE 1 T");
        d.ask(1, "UPDATE u SET v = 0 WHERE k = 2", "UPDATE 1 T");
        d.ask(0, "COMMIT", "COMMIT I");
        d.ask(1, "SELECT k FROM u", "40001 F");
        d.ask(1, "SELECT k FROM u", "25P02 F");
        d.ask(1, "COMMIT", "COMMIT I");
        d.ask(1, "SELECT * FROM u", "ii (1,0) (2,1) SELECT 2 I");
        d.due("rings", d.x.rings(), 0);
        // One of both not serializable: no arrows.
        begin(d, 0);
        d.ask(1, "BEGIN REPEATABLE READ", "BEGIN T");
        d.ask(0, "SELECT SUM(v) FROM u", "i (1) SELECT 1 T");
        d.ask(1, "SELECT SUM(v) FROM u", "i (1) SELECT 1 T");
        d.ask(0, "UPDATE u SET v = 5 WHERE k = 1", "UPDATE 1 T");
        d.ask(1, "UPDATE u SET v = 5 WHERE k = 2", "UPDATE 1 T");
        d.ask(0, "COMMIT", "COMMIT I");
        d.ask(1, "COMMIT", "COMMIT I");
        // One behind the other: not concurrent.
        begin(d, 0);
        d.ask(0, "UPDATE u SET v = 6", "UPDATE 2 T");
        d.ask(0, "COMMIT", "COMMIT I");
        begin(d, 1);
        d.ask(1, "SELECT SUM(v) FROM u", "i (12) SELECT 1 T");
        d.ask(1, "UPDATE u SET v = 7", "UPDATE 2 T");
        d.ask(1, "COMMIT", "COMMIT I");
    }

    /** Two transactions that read by a condition and insert into t; whether that comes to a danger. */
    private static void pair(String name, String where, int inserted, boolean danger) {
        Desk d = desk(name + " " + where + " " + inserted);
        begin(d, 0, 1);
        d.due("send", d.send(0, "SELECT COUNT(*) FROM t WHERE " + where), 1);
        d.due("send", d.send(1, "SELECT COUNT(*) FROM u"), 1);
        d.ask(0, "INSERT INTO u VALUES (5, 5)", "INSERT 1 T");
        d.ask(1, "INSERT INTO t VALUES (" + inserted + ", 5)", "INSERT 1 T");
        d.ask(1, "COMMIT", "COMMIT I");
        d.ask(0, "COMMIT", danger ? "40001 F" : "COMMIT I");
    }

    private static void ranges() {
        pair("range", "k = 5", 5, true);
        pair("range", "k = 5", 6, false);
        pair("range", "5 = k", 5, true);
        pair("range", "k IN (5)", 6, false);
        pair("range", "k IN (5, 6)", 99, true);
        pair("range", "k < 5", 4, true);
        pair("range", "k < 5", 5, false);
        pair("range", "k <= 5", 5, true);
        pair("range", "k <= 5", 6, false);
        pair("range", "k > 5", 6, true);
        pair("range", "k > 5", 5, false);
        pair("range", "k >= 5", 5, true);
        pair("range", "k >= 5", 4, false);
        pair("range", "5 > k", 4, true);
        pair("range", "5 > k", 5, false);
        pair("range", "5 <= k", 5, true);
        pair("range", "5 <= k", 4, false);
        pair("range", "k BETWEEN 5 AND 8", 5, true);
        pair("range", "k BETWEEN 5 AND 8", 8, true);
        pair("range", "k BETWEEN 5 AND 8", 4, false);
        pair("range", "k BETWEEN 5 AND 8", 9, false);
        pair("range", "k > 4 AND k >= 4 AND k < 9 AND k <= 12", 4, false);
        pair("range", "k >= 4 AND k > 4 AND k < 9", 4, false);
        pair("range", "k >= 4 AND k < 9", 4, true);
        pair("range", "(v = 7 AND (k > 4)) AND k < 9", 9, false);
        pair("range", "(v = 7 AND (k > 4)) AND k < 9", 8, true);
        pair("range", "k > 4 AND k = 6", 8, false);
        pair("range", "k = 6 AND k = 7", 7, false);
        pair("range", "k = 6 AND k = 7", 6, true);
        pair("range", "k = NULL", 6, false);
        pair("range", "k > 4 AND k < NULL", 6, false);
        pair("range", "k = 6 AND k = NULL", 6, true);
        pair("range", "k = 6 OR k = 7", 99, true);
        pair("range", "NOT k <> 6", 99, true);
        pair("range", "k <> 6", 99, true);
        pair("range", "k = k", 99, true);
        pair("range", "k = v", 99, true);
        pair("range", "k + 0 = 6", 99, true);
        pair("range", "v = 6", 99, true);
        pair("range", "k = 2 * 3 AND v = 1", 6, true);
        pair("range", "k = 2 * 3 AND v = 1", 7, false);
        pair("range", "k > 9 AND k < 5", 7, false);
        pair("range", "TRUE", 99, true);
    }

    private static void ninth() {
        for (int n = 8; n <= 9; n++) {
            Desk d = desk("ranges kept: " + n);
            begin(d, 0, 1);
            for (int i = 1; i <= n; i++) {
                d.due("send", d.send(0, "SELECT v FROM t WHERE k = " + (100 + i)), 1);
            }
            d.due("send", d.send(1, "SELECT COUNT(*) FROM u"), 1);
            d.ask(0, "INSERT INTO u VALUES (5, 5)", "INSERT 1 T");
            d.ask(1, "INSERT INTO t VALUES (50, 5)", "INSERT 1 T");
            d.ask(1, "COMMIT", "COMMIT I");
            d.ask(0, "COMMIT", n == 9 ? "40001 F" : "COMMIT I");
        }
        // The ninth read makes arrows for its own range alone, though the whole table is read from then on.
        Desk d = desk("ranges kept, written before");
        begin(d, 0, 1);
        for (int i = 1; i <= 8; i++) {
            d.due("send", d.send(0, "SELECT v FROM t WHERE k = " + (100 + i)), 1);
        }
        d.due("send", d.send(1, "SELECT COUNT(*) FROM u"), 1);
        d.ask(1, "INSERT INTO t VALUES (50, 5)", "INSERT 1 T");
        d.due("send", d.send(0, "SELECT v FROM t WHERE k = 109"), 1);
        d.ask(0, "INSERT INTO u VALUES (5, 5)", "INSERT 1 T");
        d.ask(1, "COMMIT", "COMMIT I");
        d.ask(0, "COMMIT", "COMMIT I");
    }

    private static void sameRange() {
        Desk d = desk("same range");
        begin(d, 0, 1);
        for (int i = 0; i < 16; i++) {
            int k = 101 + i % 8;
            d.due("send", d.send(0, i < 8 ? "SELECT v FROM t WHERE k = " + k
                : "SELECT v FROM t WHERE k >= " + k + " AND k <= " + k), 1);
        }
        d.due("send", d.send(1, "SELECT COUNT(*) FROM u"), 1);
        d.ask(0, "INSERT INTO u VALUES (5, 5)", "INSERT 1 T");
        d.ask(1, "INSERT INTO t VALUES (50, 5)", "INSERT 1 T");
        d.ask(1, "COMMIT", "COMMIT I");
        d.ask(0, "COMMIT", "COMMIT I");
    }

    private static void readOnly() {
        // 1 -> 2, and 2 committed before 0 began: when 0, which sees 2, reads what 1 writes then, 1 fails.
        Desk d = desk("read only");
        begin(d, 1, 2);
        d.ask(1, "SELECT v FROM t WHERE k <= 2", "i (1) (1) SELECT 2 T");
        d.ask(2, "UPDATE t SET v = 9 WHERE k = 2", "UPDATE 1 T");
        d.ask(2, "COMMIT", "COMMIT I");
        begin(d, 0);
        d.ask(0, "SELECT v FROM t WHERE k <= 2", "i (1) (9) SELECT 2 T");
        d.ask(1, "UPDATE t SET v = 8 WHERE k = 1", "40001 F");
        d.ask(0, "COMMIT", "COMMIT I");
        // The other way: 1 has written and committed when 0 reads.
        d = desk("read only, later");
        begin(d, 1, 2);
        d.ask(1, "SELECT v FROM t WHERE k <= 2", "i (1) (1) SELECT 2 T");
        d.ask(2, "UPDATE t SET v = 9 WHERE k = 2", "UPDATE 1 T");
        d.ask(2, "COMMIT", "COMMIT I");
        begin(d, 0);
        d.ask(0, "SELECT v FROM t WHERE k = 10", "i (1) SELECT 1 T");
        d.ask(1, "UPDATE t SET v = 8 WHERE k = 1", "UPDATE 1 T");
        d.ask(1, "COMMIT", "COMMIT I");
        // 2 is not kept any more, but that 1 read before it is known.
        d.ask(0, "SELECT v FROM t WHERE k <= 2", "40001 F");
        d.ask(0, "ROLLBACK", "ROLLBACK I");
        d.ask(0, "SELECT v FROM t WHERE k <= 2", "i (8) (9) SELECT 2 I");
        // A write that reads the whole table has the arrow the other way, too.
        d = desk("whole table");
        begin(d, 1, 2);
        d.ask(1, "SELECT SUM(v) FROM u", "i (2) SELECT 1 T");
        d.ask(2, "UPDATE u SET v = 9 WHERE k = 2", "UPDATE 1 T");
        d.ask(2, "COMMIT", "COMMIT I");
        d.ask(1, "UPDATE u SET v = 8 WHERE k = 1", "40001 F");
    }

    /** 0 -> 1 -> 2, all three running. */
    private static Desk pivot(String name) {
        Desk d = desk(name);
        begin(d, 0, 1, 2);
        d.ask(0, "SELECT v FROM t WHERE k = 1", "i (1) SELECT 1 T");
        d.ask(1, "SELECT v FROM t WHERE k = 2", "i (1) SELECT 1 T");
        d.ask(1, "UPDATE t SET v = 5 WHERE k = 1", "UPDATE 1 T");
        d.ask(2, "UPDATE t SET v = 5 WHERE k = 2", "UPDATE 1 T");
        return d;
    }

    private static void doomedWhenOtherCommits() {
        // 2 commits first: 1 is doomed, though it does nothing.
        Desk d = pivot("pivot");
        d.ask(2, "COMMIT", "COMMIT I");
        d.ask(1, "SAVEPOINT a", "40001 F");
        d.ask(1, "ROLLBACK", "ROLLBACK I");
        d.ask(0, "COMMIT", "COMMIT I");
        // If 0 committed before, nothing is amiss.
        d = pivot("pivot, the reader first");
        d.ask(0, "COMMIT", "COMMIT I");
        d.ask(2, "COMMIT", "COMMIT I");
        d.ask(1, "COMMIT", "COMMIT I");
        // If 1 commits first, neither.
        d = pivot("pivot, itself first");
        d.ask(1, "COMMIT", "COMMIT I");
        d.ask(2, "COMMIT", "COMMIT I");
        d.ask(0, "COMMIT", "COMMIT I");
    }

    private static void doomedByErrors() {
        Desk d = desk("doomed by errors");
        begin(d, 0);
        d.ask(0, "SELECT v FROM t WHERE k = 1", "i (1) SELECT 1 T");
        d.ask(0, "SAVEPOINT a", "SAVEPOINT T");
        d.ask(0, "SELECT nosuch FROM t", "42703 F");
        d.ask(0, "ROLLBACK TO a", "ROLLBACK T");
        d.ask(1, "UPDATE t SET v = 7 WHERE k = 1", "UPDATE 1 I");
        d.ask(0, "UPDATE t SET v = 8 WHERE k = 1", "40001 F");
        d.ask(0, "SELECT 1 FROM t", "25P02 F");
        d.ask(0, "ROLLBACK TO a", "40001 F");
        d.ask(0, "ROLLBACK TO nosuch", "40001 F");
        d.ask(0, "COMMIT", "COMMIT I");
        // 57014, with a snapshot and without one.
        d.ask(1, "BEGIN", "BEGIN T");
        d.ask(1, "LOCK t SHARE", "LOCK T");
        begin(d, 0, 2);
        d.ask(0, "SELECT v FROM t WHERE k = 1", "i (7) SELECT 1 T");
        d.ask(0, "SAVEPOINT a", "SAVEPOINT T");
        d.ask(2, "SAVEPOINT a", "SAVEPOINT T");
        d.ask(0, "DELETE FROM t", "waits");
        d.ask(2, "DELETE FROM t", "waits");
        d.x.cancel(0);
        d.x.cancel(2);
        d.then(0, "57014 F");
        d.then(2, "57014 F");
        d.ask(0, "ROLLBACK TO a", "40001 F");
        d.ask(2, "ROLLBACK TO a", "ROLLBACK T");
        d.ask(2, "SELECT v FROM t WHERE k = 1", "i (7) SELECT 1 T");
        // 40P01.
        d.ask(0, "ROLLBACK", "ROLLBACK I");
        d.ask(2, "LOCK u EXCLUSIVE", "LOCK T");
        d.ask(1, "DELETE FROM u", "waits");
        d.ask(2, "DELETE FROM t", "40P01 F");
        d.then(1, "DELETE 2 T");
        d.ask(2, "ROLLBACK TO a", "40001 F");
        d.ask(2, "ROLLBACK", "ROLLBACK I");
    }

    private static void gone() {
        // An error at level 0 takes the reads: no arrow comes from what is failed.
        Desk d = desk("gone");
        begin(d, 0, 1);
        d.ask(0, "SELECT SUM(v) FROM u", "i (2) SELECT 1 T");
        d.ask(1, "SELECT SUM(v) FROM t", "i (5) SELECT 1 T");
        d.ask(0, "UPDATE t SET v = 0 WHERE k = 1", "UPDATE 1 T");
        d.ask(0, "SELECT nosuch FROM u", "42703 F");
        d.ask(1, "UPDATE u SET v = 0", "UPDATE 2 T");
        d.ask(0, "ROLLBACK", "ROLLBACK I");
        begin(d, 0);
        d.ask(0, "SELECT SUM(v) FROM u", "i (2) SELECT 1 T");
        d.ask(1, "COMMIT", "COMMIT I");
        d.ask(0, "UPDATE t SET v = 0 WHERE k = 1", "40001 F");
    }

    private static void rolledBackArrows() {
        // What B undid makes no arrow when A reads then; one that was there stays, unless B is rolled back.
        Desk d = desk("undone before the read");
        begin(d, 0, 1);
        d.ask(1, "SELECT SUM(v) FROM u", "i (2) SELECT 1 T");
        d.ask(1, "SAVEPOINT a", "SAVEPOINT T");
        d.ask(1, "UPDATE t SET v = 9 WHERE k = 1", "UPDATE 1 T");
        d.ask(1, "ROLLBACK TO a", "ROLLBACK T");
        d.ask(0, "SELECT v FROM t WHERE k = 1", "i (1) SELECT 1 T");
        d.ask(0, "UPDATE u SET v = 9 WHERE k = 1", "UPDATE 1 T");
        d.ask(0, "COMMIT", "COMMIT I");
        d.ask(1, "COMMIT", "COMMIT I");
        d = desk("undone behind the read");
        begin(d, 0, 1);
        d.ask(1, "SELECT SUM(v) FROM u", "i (2) SELECT 1 T");
        d.ask(1, "SAVEPOINT a", "SAVEPOINT T");
        d.ask(1, "UPDATE t SET v = 9 WHERE k = 1", "UPDATE 1 T");
        d.ask(0, "SELECT v FROM t WHERE k = 1", "i (1) SELECT 1 T");
        d.ask(1, "ROLLBACK TO a", "ROLLBACK T");
        d.ask(0, "UPDATE u SET v = 9 WHERE k = 1", "UPDATE 1 T");
        d.ask(0, "COMMIT", "COMMIT I");
        d.ask(1, "COMMIT", "40001 F");
        d = desk("rolled back");
        begin(d, 0, 1, 2);
        d.ask(1, "SELECT SUM(v) FROM u", "i (2) SELECT 1 T");
        d.ask(1, "UPDATE t SET v = 9 WHERE k = 1", "UPDATE 1 T");
        d.ask(0, "SELECT v FROM t WHERE k = 1", "i (1) SELECT 1 T");
        d.ask(0, "UPDATE u SET v = 9 WHERE k = 1", "UPDATE 1 T");
        d.ask(1, "ROLLBACK", "ROLLBACK I");
        d.ask(0, "COMMIT", "COMMIT I");
    }

    /** Arrows that come when A reads: by what B made, and by what B ended. */
    private static void readsLater() {
        String[] writes = {"DELETE FROM t WHERE k = 1", "UPDATE t SET v = 2 WHERE k = 1", "INSERT INTO t VALUES (0, 0)"};
        String[] reads = {"k = 1", "k = 1", "k = 0"};
        for (int i = 0; i < writes.length; i++) {
            for (int committed = 0; committed < 2; committed++) {
                Desk d = desk("reads later: " + writes[i] + " " + committed);
                begin(d, 0, 1);
                d.ask(0, "SELECT SUM(v) FROM u", "i (2) SELECT 1 T");
                d.ask(1, "UPDATE u SET v = 3 WHERE k = 1", "UPDATE 1 T");
                d.due("send", d.send(1, "SELECT v FROM t WHERE k = 20"), 1);
                d.ask(0, writes[i], writes[i].substring(0, 6) + " 1 T");
                if (committed == 1) {
                    d.ask(0, "COMMIT", "COMMIT I");
                    // 0 -> 1 is there; 1 -> 0 comes, 0 being committed: 0 -> 1 -> 0.
                    d.ask(1, "SELECT v FROM t WHERE " + reads[i], "40001 F");
                } else {
                    d.due("send", d.send(1, "SELECT v FROM t WHERE " + reads[i]), 1);
                    d.ask(1, "COMMIT", "COMMIT I");
                    d.ask(0, "COMMIT", "40001 F");
                }
            }
        }
    }

    private static void uniqueReads() {
        // Inserting reads the value that must be unique: 0 -> 1 by k = 7, which 1 inserts later and undoes.
        Desk d = desk("unique reads");
        begin(d, 0, 1);
        d.ask(0, "INSERT INTO t VALUES (7, 7)", "INSERT 1 T");
        d.ask(1, "SELECT v FROM t WHERE k = 7", "i SELECT 0 T");
        d.ask(1, "INSERT INTO t VALUES (8, 8)", "INSERT 1 T");
        d.ask(0, "SELECT v FROM t WHERE k = 9", "i SELECT 0 T");
        d.ask(0, "COMMIT", "COMMIT I");
        d.ask(1, "COMMIT", "COMMIT I");
        // 1 -> 0 by k = 7; 1 looks at 8 (unique), and 0 reads 8: 0 -> 1. 0 committed first: 1 fails.
        d = desk("unique reads, danger");
        begin(d, 0, 1);
        d.ask(0, "INSERT INTO t VALUES (7, 7)", "INSERT 1 T");
        d.ask(1, "SELECT v FROM t WHERE k = 7", "i SELECT 0 T");
        d.ask(0, "SELECT v FROM t WHERE k = 8", "i SELECT 0 T");
        d.ask(0, "COMMIT", "COMMIT I");
        d.ask(1, "INSERT INTO t VALUES (8, 8)", "40001 F");
        d.count(2, 9);
        // The look itself reads: 1 -> 0 comes when 1 looks for 7, 0 -> 1 is there.
        d = desk("the look reads");
        begin(d, 0, 1);
        d.ask(0, "SELECT SUM(v) FROM u", "i (2) SELECT 1 T");
        d.ask(1, "UPDATE u SET v = 5", "UPDATE 2 T");
        d.ask(0, "INSERT INTO t VALUES (7, 7)", "INSERT 1 T");
        d.ask(0, "DELETE FROM t WHERE k = 7", "DELETE 1 T");
        d.ask(0, "COMMIT", "COMMIT I");
        d.ask(1, "INSERT INTO t VALUES (7, 8)", "40001 F");
        // A NULL is not looked for.
        d = desk("no look for NULL");
        begin(d, 0, 1);
        d.ask(0, "INSERT INTO t VALUES (NULL, 7)", "INSERT 1 T");
        d.ask(1, "INSERT INTO t VALUES (NULL, 7)", "INSERT 1 T");
        d.ask(0, "COMMIT", "COMMIT I");
        d.ask(1, "COMMIT", "COMMIT I");
    }

    private static void waited() {
        // 1 waits when 2's commit dooms it; it fails behind its next read or write.
        Desk d = pivot("waited, LOCK");
        d.ask(3, "BEGIN", "BEGIN T");
        d.ask(3, "LOCK u EXCLUSIVE", "LOCK T");
        d.ask(1, "LOCK u SHARE", "waits");
        d.ask(2, "COMMIT", "COMMIT I");
        d.state(1, 6);
        d.ask(3, "COMMIT", "COMMIT I");
        d.then(1, "LOCK T");
        d.ask(1, "LOCK u SHARE", "40001 F");
        d = pivot("waited, query");
        d.ask(3, "BEGIN", "BEGIN T");
        d.ask(3, "LOCK u ACCESS EXCLUSIVE", "LOCK T");
        d.ask(1, "SELECT COUNT(*) FROM u", "waits");
        d.ask(2, "COMMIT", "COMMIT I");
        d.ask(3, "COMMIT", "COMMIT I");
        d.then(1, "40001 F");
        d = pivot("waited, FOR and DELETE");
        d.ask(3, "BEGIN", "BEGIN T");
        d.ask(3, "SELECT k FROM t WHERE k = 20 FOR UPDATE", "i (20) SELECT 1 T");
        d.ask(1, "SELECT k FROM t WHERE k = 20 FOR UPDATE", "waits");
        d.ask(2, "COMMIT", "COMMIT I");
        d.ask(3, "COMMIT", "COMMIT I");
        d.then(1, "i (20) SELECT 1 T");
        d.ask(1, "COMMIT", "40001 F");
    }

    private static void kept() {
        // 64 are kept: a long one, and 63 that committed since; each has a snapshot of its own.
        Desk d = desk("kept");
        begin(d, 0);
        d.ask(0, "SELECT 1 FROM u", "i (1) (1) SELECT 2 T");
        for (int i = 1; i <= 63; i++) {
            d.due("send", d.send(1, "BEGIN SERIALIZABLE"), 1);
            d.due("send", d.send(1, "SELECT 1 FROM u"), 1);
            d.due("send", d.send(1, "COMMIT"), 1);
        }
        d.then(1, "COMMIT I");
        begin(d, 1);
        d.ask(1, "SELECT 1 FROM u", "53200 F");
        d.ask(1, "ROLLBACK", "ROLLBACK I");
        // One that is not serializable needs no place.
        d.ask(1, "BEGIN REPEATABLE READ", "BEGIN T");
        d.ask(1, "SELECT 1 FROM u", "i (1) (1) SELECT 2 T");
        d.ask(1, "COMMIT", "COMMIT I");
        d.ask(0, "COMMIT", "COMMIT I");
        begin(d, 1);
        d.ask(1, "SELECT 1 FROM u", "i (1) (1) SELECT 2 T");
        d.ask(1, "COMMIT", "COMMIT I");
    }

    private static void dropped() {
        // Reads of a table that was dropped are not kept; a new one in its place is another one.
        Desk d = desk("dropped");
        begin(d, 0, 1);
        d.ask(0, "SELECT COUNT(*) FROM t", "i (5) SELECT 1 T");
        d.ask(0, "SAVEPOINT a", "SAVEPOINT T");
        d.ask(0, "SELECT COUNT(*) FROM u", "i (2) SELECT 1 T");
        d.ask(0, "ROLLBACK TO a", "ROLLBACK T");
        d.ask(2, "DROP TABLE u", "DROP I");
        d.ask(2, "CREATE TABLE u (k INT)", "CREATE I");
        d.ask(1, "SELECT COUNT(*) FROM t", "i (5) SELECT 1 T");
        d.ask(1, "INSERT INTO u VALUES (1)", "INSERT 1 T");
        d.ask(1, "COMMIT", "COMMIT I");
        d.ask(0, "UPDATE t SET v = 0 WHERE k = 1", "UPDATE 1 T");
        d.ask(0, "COMMIT", "COMMIT I");
    }
}
