/** Promises 4, 5, 7, 10: transactions, savepoints, versions, row locks and uniqueness between sessions. */
public final class TransactionTest {
    public static void main(String[] args) {
        isolation();
        savepoints();
        errors();
        numbers();
        readCommitted();
        repeatableRead();
        rowLocks();
        shareBySeveralNumbers();
        updateBySeveralNumbers();
        bothBySeveralNumbers();
        unique();
        uniqueRepeatable();
        commands();
        versionsFull();
        Desk.end("TransactionTest");
    }

    private static Desk desk(String name) {
        Desk d = Desk.with(name, 6);
        d.ask(0, "CREATE TABLE t (k INT UNIQUE, v INT)", "CREATE I");
        d.ask(0, "INSERT INTO t VALUES (1,10),(2,20),(3,30)", "INSERT 3 I");
        return d;
    }

    private static void isolation() {
        Desk d = desk("isolation");
        d.ask(1, "BEGIN READ COMMITTED", "BEGIN T");
        d.ask(2, "BEGIN REPEATABLE READ", "BEGIN T");
        d.ask(3, "BEGIN REPEATABLE READ", "BEGIN T");
        d.ask(2, "SELECT v FROM t WHERE k = 1", "i (10) SELECT 1 T");
        d.ask(1, "SELECT v FROM t WHERE k = 1", "i (10) SELECT 1 T");
        d.ask(0, "BEGIN", "BEGIN T");
        d.ask(0, "UPDATE t SET v = 11 WHERE k = 1", "UPDATE 1 T");
        d.ask(0, "SELECT v FROM t WHERE k = 1", "i (11) SELECT 1 T");
        d.ask(1, "SELECT v FROM t WHERE k = 1", "i (10) SELECT 1 T");
        d.ask(0, "COMMIT", "COMMIT I");
        d.ask(1, "SELECT v FROM t WHERE k = 1", "i (11) SELECT 1 T");
        d.ask(2, "SELECT v FROM t WHERE k = 1", "i (10) SELECT 1 T");
        // The snapshot is taken by the first command, not by BEGIN.
        d.ask(3, "SELECT v FROM t WHERE k = 1", "i (11) SELECT 1 T");
        d.ask(2, "COMMIT", "COMMIT I");
        d.ask(2, "SELECT v FROM t WHERE k = 1", "i (11) SELECT 1 I");
        // LOCK takes no snapshot.
        d.ask(4, "BEGIN REPEATABLE READ", "BEGIN T");
        d.ask(4, "LOCK t ACCESS SHARE", "LOCK T");
        d.ask(0, "UPDATE t SET v = 12 WHERE k = 1", "UPDATE 1 I");
        d.ask(4, "SELECT v FROM t WHERE k = 1", "i (12) SELECT 1 T");
        // A session that closes has its transaction rolled back.
        d.ask(5, "BEGIN", "BEGIN T");
        d.ask(5, "DELETE FROM t", "DELETE 3 T");
        d.due("close", d.x.close(5), true);
        d.ask(0, "SELECT COUNT(*) FROM t", "i (3) SELECT 1 I");
    }

    private static void savepoints() {
        Desk d = desk("savepoints");
        d.ask(0, "BEGIN", "BEGIN T");
        d.ask(0, "UPDATE t SET v = 1 WHERE k = 1", "UPDATE 1 T");
        d.ask(0, "SAVEPOINT a", "SAVEPOINT T");
        d.ask(0, "UPDATE t SET v = 2 WHERE k = 1", "UPDATE 1 T");
        d.ask(0, "SAVEPOINT b", "SAVEPOINT T");
        d.ask(0, "UPDATE t SET v = 3 WHERE k = 1", "UPDATE 1 T");
        d.ask(0, "SAVEPOINT a", "SAVEPOINT T");
        d.ask(0, "UPDATE t SET v = 4 WHERE k = 1", "UPDATE 1 T");
        d.ask(0, "ROLLBACK TO a", "ROLLBACK T");
        d.ask(0, "SELECT v FROM t WHERE k = 1", "i (3) SELECT 1 T");
        d.ask(0, "UPDATE t SET v = 5 WHERE k = 1", "UPDATE 1 T");
        d.ask(0, "RELEASE a", "RELEASE T");
        d.ask(0, "SELECT v FROM t WHERE k = 1", "i (5) SELECT 1 T");
        d.ask(0, "ROLLBACK TO a", "ROLLBACK T");
        d.ask(0, "SELECT v FROM t WHERE k = 1", "i (1) SELECT 1 T");
        d.ask(0, "ROLLBACK TO b", "3B001 F");
        d.ask(0, "ROLLBACK TO a", "ROLLBACK T");
        d.ask(0, "SELECT v FROM t WHERE k = 1", "i (1) SELECT 1 T");
        d.ask(0, "RELEASE c", "3B001 F");
        d.ask(0, "SELECT v FROM t WHERE k = 1", "25P02 F");
        d.ask(0, "ROLLBACK TO a", "ROLLBACK T");
        d.ask(0, "COMMIT", "COMMIT I");
        d.ask(0, "SELECT v FROM t WHERE k = 1", "i (1) SELECT 1 I");
        d.ask(0, "BEGIN", "BEGIN T");
        for (int i = 1; i <= 7; i++) {
            d.ask(0, "SAVEPOINT s" + i, "SAVEPOINT T");
        }
        d.ask(0, "UPDATE t SET v = 7 WHERE k = 1", "UPDATE 1 T");
        d.ask(0, "SAVEPOINT s8", "54023 F");
        d.ask(0, "ROLLBACK TO s7", "ROLLBACK T");
        d.ask(0, "SELECT v FROM t WHERE k = 1", "i (1) SELECT 1 T");
        d.ask(0, "RELEASE s3", "RELEASE T");
        d.ask(0, "SAVEPOINT s8", "SAVEPOINT T");
        d.ask(0, "RELEASE s3", "3B001 F");
        d.ask(0, "ROLLBACK", "ROLLBACK I");
        d.state(0, 1);
    }

    private static void errors() {
        Desk d = desk("errors");
        // An error undoes the level on top alone.
        d.ask(0, "BEGIN", "BEGIN T");
        d.ask(0, "UPDATE t SET v = 1 WHERE k = 1", "UPDATE 1 T");
        d.ask(0, "SAVEPOINT a", "SAVEPOINT T");
        d.ask(0, "UPDATE t SET v = 2 WHERE k = 2", "UPDATE 1 T");
        d.ask(1, "UPDATE t SET v = 9 WHERE k = 2", "waits");
        d.ask(0, "SELECT nosuch FROM t", "42703 F");
        d.then(1, "UPDATE 1 I");
        d.ask(1, "UPDATE t SET v = 9 WHERE k = 1", "waits");
        d.ask(0, "ROLLBACK TO a", "ROLLBACK T");
        d.ask(0, "COMMIT", "COMMIT I");
        d.then(1, "UPDATE 1 I");
        d.ask(0, "SELECT * FROM t", "ii (1,9) (2,9) (3,30) SELECT 3 I");
        // At level 0 all is undone, and only ROLLBACK and COMMIT are left, which do the same.
        d.ask(0, "BEGIN", "BEGIN T");
        d.ask(0, "UPDATE t SET v = 5 WHERE k = 3", "UPDATE 1 T");
        d.ask(1, "UPDATE t SET v = 6 WHERE k = 3", "waits");
        d.ask(0, "INSERT INTO t VALUES (1, 1)", "23505 F");
        d.then(1, "UPDATE 1 I");
        d.ask(0, "ROLLBACK TO a", "3B001 F");
        d.ask(0, "COMMIT", "COMMIT I");
        d.ask(0, "SELECT v FROM t WHERE k = 3", "i (6) SELECT 1 I");
        // A statement of its own is rolled back whole.
        d.ask(0, "INSERT INTO t VALUES (8, 8), (9, 9), (1, 1)", "23505 I");
        d.ask(0, "SELECT COUNT(*) FROM t", "i (3) SELECT 1 I");
        d.count(1, 11);
    }

    private static void numbers() {
        Desk d = desk("numbers");
        d.count(3, 1);
        d.count(4, 1);
        d.ask(0, "BEGIN", "BEGIN T");
        d.ask(0, "SELECT COUNT(*) FROM t", "i (3) SELECT 1 T");
        d.ask(0, "UPDATE t SET v = 1 WHERE k = 99", "UPDATE 0 T");
        d.count(3, 1);
        d.ask(0, "COMMIT", "COMMIT I");
        d.count(4, 1);
        d.ask(0, "BEGIN", "BEGIN T");
        d.ask(0, "SAVEPOINT a", "SAVEPOINT T");
        d.ask(0, "SAVEPOINT b", "SAVEPOINT T");
        d.ask(0, "SELECT k FROM t WHERE k = 1 FOR SHARE", "i (1) SELECT 1 T");
        d.count(3, 4);
        d.ask(0, "SAVEPOINT c", "SAVEPOINT T");
        d.ask(0, "SELECT k FROM t WHERE k = 1 FOR SHARE", "i (1) SELECT 1 T");
        d.count(3, 5);
        d.ask(0, "UPDATE t SET v = 1 WHERE k = 1", "UPDATE 1 T");
        d.count(3, 5);
        d.ask(0, "ROLLBACK TO c", "ROLLBACK T");
        d.ask(0, "DELETE FROM t WHERE k = 1", "DELETE 1 T");
        d.count(3, 6);
        d.ask(0, "RELEASE b", "RELEASE T");
        d.ask(0, "SAVEPOINT b", "SAVEPOINT T");
        d.ask(0, "INSERT INTO t VALUES (1, 1)", "INSERT 1 T");
        d.count(3, 7);
        d.count(4, 1);
        d.ask(0, "COMMIT", "COMMIT I");
        d.count(4, 2);
        d.ask(0, "SELECT * FROM t", "ii (1,1) (2,20) (3,30) SELECT 3 I");
        // A rolled back one has its number, too.
        d.ask(0, "INSERT INTO t VALUES (1, 1)", "23505 I");
        d.count(3, 7);
        d.ask(0, "INSERT INTO t VALUES (7, 1), (1, 1)", "23505 I");
        d.count(3, 8);
        d.count(4, 2);
        d.ask(0, "SELECT k FROM t FOR UPDATE", "i (1) (2) (3) SELECT 3 I");
        d.count(3, 9);
        d.count(4, 3);
    }

    private static void readCommitted() {
        Desk d = desk("read committed");
        d.ask(0, "BEGIN", "BEGIN T");
        d.ask(0, "UPDATE t SET v = v + 1", "UPDATE 3 T");
        d.ask(1, "UPDATE t SET v = v * 2 WHERE v < 31", "waits");
        d.state(1, 5);
        d.ask(2, "DELETE FROM t WHERE v = 30", "waits");
        d.ask(3, "SELECT k, v FROM t WHERE v > 15 ORDER BY 2 DESC LIMIT 1 FOR UPDATE", "waits");
        d.count(8, 3);
        d.ask(0, "COMMIT", "COMMIT I");
        // WHERE is looked at anew for the version that came in the place: 31 < 31 is not t.
        d.then(1, "UPDATE 2 I");
        d.then(2, "DELETE 0 I");
        d.then(3, "ii (3,31) SELECT 1 I");
        d.ask(0, "SELECT * FROM t", "ii (1,22) (2,42) (3,31) SELECT 3 I");
        // A deleted one is left out; a rolled back one is as if nothing had been.
        d.ask(0, "BEGIN", "BEGIN T");
        d.ask(0, "DELETE FROM t WHERE k = 1", "DELETE 1 T");
        d.ask(1, "UPDATE t SET v = 0 WHERE k < 3", "waits");
        d.ask(0, "COMMIT", "COMMIT I");
        d.then(1, "UPDATE 1 I");
        d.ask(0, "BEGIN", "BEGIN T");
        d.ask(0, "DELETE FROM t WHERE k = 2", "DELETE 1 T");
        d.ask(1, "UPDATE t SET v = v + 5 WHERE k = 2", "waits");
        d.ask(0, "ROLLBACK", "ROLLBACK I");
        d.then(1, "UPDATE 1 I");
        d.ask(0, "SELECT * FROM t", "ii (2,5) (3,31) SELECT 2 I");
        // A chain of updates.
        d.ask(0, "BEGIN", "BEGIN T");
        d.ask(0, "UPDATE t SET v = 100 WHERE k = 3", "UPDATE 1 T");
        d.ask(0, "UPDATE t SET v = v + 1 WHERE k = 3", "UPDATE 1 T");
        d.ask(1, "UPDATE t SET v = v + 10 WHERE k = 3", "waits");
        d.ask(2, "UPDATE t SET v = v + 1000 WHERE k = 3", "waits");
        d.ask(0, "UPDATE t SET k = 4 WHERE k = 3", "UPDATE 1 T");
        d.ask(0, "COMMIT", "COMMIT I");
        d.then(1, "UPDATE 0 I");
        d.then(2, "UPDATE 0 I");
        d.ask(0, "BEGIN", "BEGIN T");
        d.ask(0, "UPDATE t SET v = 100 WHERE k = 4", "UPDATE 1 T");
        d.ask(0, "UPDATE t SET v = v + 1 WHERE k = 4", "UPDATE 1 T");
        d.ask(1, "UPDATE t SET v = v + 10 WHERE k = 4", "waits");
        d.ask(2, "UPDATE t SET v = v + 1000 WHERE k = 4", "waits");
        d.ask(0, "COMMIT", "COMMIT I");
        d.then(1, "UPDATE 1 I");
        d.then(2, "UPDATE 1 I");
        d.ask(0, "SELECT v FROM t WHERE k = 4", "i (1111) SELECT 1 I");
    }

    private static void repeatableRead() {
        Desk d = desk("repeatable read");
        d.ask(1, "BEGIN REPEATABLE READ", "BEGIN T");
        d.ask(1, "SELECT COUNT(*) FROM t", "i (3) SELECT 1 T");
        d.ask(0, "BEGIN", "BEGIN T");
        d.ask(0, "UPDATE t SET v = 0 WHERE k = 1", "UPDATE 1 T");
        d.ask(1, "SAVEPOINT a", "SAVEPOINT T");
        d.ask(1, "SELECT v FROM t WHERE k = 1 FOR SHARE", "waits");
        d.state(1, 6);
        d.ask(0, "COMMIT", "COMMIT I");
        d.then(1, "40001 F");
        d.ask(1, "ROLLBACK TO a", "ROLLBACK T");
        d.ask(1, "SELECT v FROM t WHERE k = 1", "i (10) SELECT 1 T");
        d.ask(1, "DELETE FROM t WHERE k = 1", "40001 F");
        d.ask(1, "ROLLBACK TO a", "ROLLBACK T");
        d.ask(1, "UPDATE t SET v = 5 WHERE k = 2", "UPDATE 1 T");
        d.ask(0, "UPDATE t SET v = v + 1 WHERE k = 2", "waits");
        d.ask(1, "COMMIT", "COMMIT I");
        d.then(0, "UPDATE 1 I");
        d.ask(0, "SELECT * FROM t", "ii (1,0) (2,6) (3,30) SELECT 3 I");
    }

    private static void rowLocks() {
        Desk d = desk("row locks");
        d.ask(0, "BEGIN", "BEGIN T");
        d.ask(0, "SELECT k FROM t WHERE k = 1 FOR SHARE", "i (1) SELECT 1 T");
        d.ask(1, "BEGIN", "BEGIN T");
        d.ask(1, "SELECT k FROM t WHERE k = 1 FOR SHARE", "i (1) SELECT 1 T");
        d.ask(2, "UPDATE t SET v = 0 WHERE k = 1", "waits");
        d.ask(3, "SELECT v FROM t WHERE k = 1 FOR UPDATE", "waits");
        d.ask(4, "SELECT v FROM t WHERE k = 1 FOR SHARE", "i (10) SELECT 1 I");
        d.ask(0, "COMMIT", "COMMIT I");
        d.count(8, 2);
        d.ask(1, "ROLLBACK", "ROLLBACK I");
        d.then(2, "UPDATE 1 I");
        d.then(3, "i (0) SELECT 1 I");
        d.ask(0, "BEGIN", "BEGIN T");
        d.ask(0, "SELECT k FROM t FOR UPDATE", "i (1) (2) (3) SELECT 3 T");
        d.ask(0, "SELECT k FROM t FOR SHARE", "i (1) (2) (3) SELECT 3 T");
        d.ask(0, "UPDATE t SET v = 1 WHERE k = 1", "UPDATE 1 T");
        d.ask(1, "SELECT k FROM t WHERE k = 2 FOR SHARE", "waits");
        d.ask(2, "DELETE FROM t WHERE k = 3", "waits");
        d.ask(3, "SELECT k, v FROM t", "ii (1,0) (2,20) (3,30) SELECT 3 I");
        d.ask(0, "COMMIT", "COMMIT I");
        d.then(1, "i (2) SELECT 1 I");
        d.then(2, "DELETE 1 I");
        // Like rows are in the order of their numbers: a later one does not come before the one that is locked.
        d.ask(0, "INSERT INTO t VALUES (NULL, 7)", "INSERT 1 I");
        d.ask(0, "BEGIN", "BEGIN T");
        d.ask(0, "SELECT v FROM t WHERE v = 7 LIMIT 1 FOR UPDATE", "i (7) SELECT 1 T");
        d.ask(1, "INSERT INTO t VALUES (NULL, 7)", "INSERT 1 I");
        d.ask(1, "SELECT v FROM t WHERE v = 7 LIMIT 1 FOR UPDATE", "waits");
        d.ask(0, "ROLLBACK", "ROLLBACK I");
        d.then(1, "i (7) SELECT 1 I");
        d.ask(1, "DELETE FROM t WHERE v = 7", "DELETE 2 I");
        // A lock of a level goes with it, unless that is released.
        d.ask(0, "BEGIN", "BEGIN T");
        d.ask(0, "SAVEPOINT a", "SAVEPOINT T");
        d.ask(0, "SELECT k FROM t WHERE k = 1 FOR UPDATE", "i (1) SELECT 1 T");
        d.ask(1, "SELECT k FROM t WHERE k = 1 FOR UPDATE", "waits");
        d.ask(0, "ROLLBACK TO a", "ROLLBACK T");
        d.then(1, "i (1) SELECT 1 I");
        d.ask(0, "SELECT k FROM t WHERE k = 1 FOR UPDATE", "i (1) SELECT 1 T");
        d.ask(0, "RELEASE a", "RELEASE T");
        d.ask(0, "SAVEPOINT a", "SAVEPOINT T");
        d.ask(0, "SELECT k FROM t WHERE k = 1 FOR UPDATE", "i (1) SELECT 1 T");
        d.ask(0, "ROLLBACK TO a", "ROLLBACK T");
        d.ask(1, "SELECT k FROM t WHERE k = 1 FOR UPDATE", "waits");
        d.ask(0, "ROLLBACK", "ROLLBACK I");
        d.then(1, "i (1) SELECT 1 I");
        // It waits for the least number of several: the one that began to lock first.
        d.ask(1, "BEGIN", "BEGIN T");
        d.ask(0, "BEGIN", "BEGIN T");
        d.ask(1, "SELECT k FROM t WHERE k = 1 FOR SHARE", "i (1) SELECT 1 T");
        d.ask(0, "SELECT k FROM t WHERE k = 1 FOR SHARE", "i (1) SELECT 1 T");
        d.ask(2, "BEGIN", "BEGIN T");
        d.ask(2, "SELECT k FROM t WHERE k = 2 FOR UPDATE", "i (2) SELECT 1 T");
        d.ask(2, "DELETE FROM t WHERE k = 1", "waits");
        d.ask(0, "SELECT k FROM t WHERE k = 2 FOR UPDATE", "waits");
        d.ask(1, "ROLLBACK", "ROLLBACK I");
        d.then(2, "40P01 F");
        d.then(0, "i (2) SELECT 1 T");
        // Rows left out are not made up for.
        d.x.close(0);
        d.x.open(0);
        d.ask(2, "ROLLBACK", "ROLLBACK I");
        d.ask(0, "INSERT INTO t VALUES (5, 5), (6, 6)", "INSERT 2 I");
        d.ask(0, "BEGIN", "BEGIN T");
        d.ask(0, "DELETE FROM t WHERE k = 5", "DELETE 1 T");
        d.ask(1, "SELECT k FROM t WHERE k > 4 LIMIT 1 FOR UPDATE", "waits");
        d.ask(0, "COMMIT", "COMMIT I");
        d.then(1, "i SELECT 0 I");
    }

    /** Session 0 has the least number, session 1 the next one, and a lock of row 1 that is shared. */
    private static Desk sharing(String name) {
        Desk d = desk(name);
        d.ask(0, "BEGIN", "BEGIN T");
        d.ask(0, "INSERT INTO t VALUES (9, 90)", "INSERT 1 T");
        d.ask(1, "BEGIN", "BEGIN T");
        d.ask(1, "SELECT k FROM t WHERE k = 1 FOR SHARE", "i (1) SELECT 1 T");
        d.ask(2, "BEGIN", "BEGIN T");
        d.ask(2, "UPDATE t SET v = 21 WHERE k = 2", "UPDATE 1 T");
        d.count(3, 4);
        return d;
    }

    private static void shareBySeveralNumbers() {
        // Released, its number 5 is of level 0; then level 0's own number 2 locks the row, too: 2 is waited for.
        Desk d = sharing("shared by a released level, then below it");
        d.ask(0, "SAVEPOINT s", "SAVEPOINT T");
        d.ask(0, "SELECT k FROM t WHERE k = 1 FOR SHARE", "i (1) SELECT 1 T");
        d.ask(0, "RELEASE s", "RELEASE T");
        d.ask(0, "SELECT k FROM t WHERE k = 1 FOR SHARE", "i (1) SELECT 1 T");
        d.count(3, 5);
        d.ask(2, "DELETE FROM t WHERE k = 1", "waits");
        d.ask(0, "DELETE FROM t WHERE k = 2", "40P01 F");
        // Session 0's locks are gone: session 1's number 3 is waited for now.
        d.state(2, 6);
        d.ask(1, "COMMIT", "COMMIT I");
        d.then(2, "DELETE 1 T");

        // Without the second lock the least number is session 1's, and session 0 may wait on session 2.
        d = sharing("shared by a released level alone");
        d.ask(0, "SAVEPOINT s", "SAVEPOINT T");
        d.ask(0, "SELECT k FROM t WHERE k = 1 FOR SHARE", "i (1) SELECT 1 T");
        d.ask(0, "RELEASE s", "RELEASE T");
        d.ask(2, "DELETE FROM t WHERE k = 1", "waits");
        d.ask(0, "DELETE FROM t WHERE k = 2", "waits");
        // Then session 2 would wait for number 5, which is of session 0.
        d.ask(1, "COMMIT", "COMMIT I");
        d.then(2, "40P01 F");
        d.then(0, "DELETE 1 T");

        // The other way round: level 0 first, then the savepoint, whose lock goes.
        d = sharing("shared by level 0, then above it");
        d.ask(0, "SELECT k FROM t WHERE k = 1 FOR SHARE", "i (1) SELECT 1 T");
        d.ask(0, "SAVEPOINT s", "SAVEPOINT T");
        d.ask(0, "SELECT k FROM t WHERE k = 1 FOR SHARE", "i (1) SELECT 1 T");
        d.ask(0, "ROLLBACK TO s", "ROLLBACK T");
        d.ask(2, "DELETE FROM t WHERE k = 1", "waits");
        d.ask(0, "SELECT k FROM t WHERE k = 2 FOR SHARE", "40P01 F");

        // A lock of a level that was rolled back does not count, nor hide a later one of another number.
        d = sharing("shared again behind ROLLBACK TO");
        d.ask(0, "SAVEPOINT s", "SAVEPOINT T");
        d.ask(0, "SELECT k FROM t WHERE k = 1 FOR SHARE", "i (1) SELECT 1 T");
        d.ask(0, "ROLLBACK TO s", "ROLLBACK T");
        d.ask(0, "SELECT k FROM t WHERE k = 1 FOR SHARE", "i (1) SELECT 1 T");
        d.count(3, 6);
        d.ask(1, "ROLLBACK", "ROLLBACK I");
        d.ask(2, "DELETE FROM t WHERE k = 1", "waits");
        d.ask(0, "ROLLBACK TO s", "ROLLBACK T");
        d.then(2, "DELETE 1 T");
    }

    private static void updateBySeveralNumbers() {
        Desk d = desk("locked for UPDATE by a released level, then below it");
        d.ask(0, "BEGIN", "BEGIN T");
        d.ask(0, "SAVEPOINT a", "SAVEPOINT T");
        d.ask(0, "SAVEPOINT b", "SAVEPOINT T");
        d.ask(0, "SELECT k FROM t WHERE k = 1 FOR UPDATE", "i (1) SELECT 1 T");
        d.ask(0, "RELEASE b", "RELEASE T");
        d.ask(0, "SELECT k FROM t WHERE k = 1 FOR UPDATE", "i (1) SELECT 1 T");
        d.ask(0, "RELEASE a", "RELEASE T");
        d.ask(0, "SELECT k FROM t WHERE k = 1 FOR UPDATE", "i (1) SELECT 1 T");
        d.count(3, 4);
        d.ask(0, "SAVEPOINT a", "SAVEPOINT T");
        d.ask(0, "SELECT k FROM t WHERE k = 1 FOR UPDATE", "i (1) SELECT 1 T");
        d.count(3, 5);
        d.ask(1, "SELECT k FROM t WHERE k = 1 FOR SHARE", "waits");
        d.ask(2, "UPDATE t SET v = 11 WHERE k = 1", "waits");
        d.ask(0, "ROLLBACK TO a", "ROLLBACK T");
        d.state(1, 5);
        d.ask(0, "SELECT nosuch FROM t", "42703 F");
        d.state(1, 5);
        d.state(2, 5);
        d.ask(0, "ROLLBACK", "ROLLBACK I");
        d.then(1, "i (1) SELECT 1 I");
        d.then(2, "UPDATE 1 I");

        d = desk("locked for UPDATE by a level that goes, then by one that stays");
        d.ask(0, "BEGIN", "BEGIN T");
        d.ask(0, "SAVEPOINT a", "SAVEPOINT T");
        d.ask(0, "SELECT k FROM t WHERE k = 1 FOR UPDATE", "i (1) SELECT 1 T");
        d.ask(0, "ROLLBACK TO a", "ROLLBACK T");
        d.ask(0, "RELEASE a", "RELEASE T");
        d.ask(1, "SELECT k FROM t WHERE k = 1 FOR SHARE", "i (1) SELECT 1 I");
        d.ask(0, "SELECT k FROM t WHERE k = 1 FOR UPDATE", "i (1) SELECT 1 T");
        d.ask(1, "SELECT k FROM t WHERE k = 1 FOR SHARE", "waits");
        d.ask(0, "COMMIT", "COMMIT I");
        d.then(1, "i (1) SELECT 1 I");
    }

    private static void bothBySeveralNumbers() {
        // SHARE by level 0 and UPDATE above it: what goes with the savepoint is the UPDATE alone.
        Desk d = desk("SHARE below, UPDATE above");
        d.ask(0, "BEGIN", "BEGIN T");
        d.ask(0, "SELECT k FROM t WHERE k = 1 FOR SHARE", "i (1) SELECT 1 T");
        d.ask(0, "SAVEPOINT a", "SAVEPOINT T");
        d.ask(0, "SELECT k FROM t WHERE k = 1 FOR UPDATE", "i (1) SELECT 1 T");
        d.ask(1, "SELECT k FROM t WHERE k = 1 FOR SHARE", "waits");
        d.ask(2, "SELECT k FROM t WHERE k = 1 FOR UPDATE", "waits");
        d.ask(0, "ROLLBACK TO a", "ROLLBACK T");
        d.then(1, "i (1) SELECT 1 I");
        d.state(2, 5);
        d.ask(0, "COMMIT", "COMMIT I");
        d.then(2, "i (1) SELECT 1 I");

        // UPDATE by level 0 and SHARE above it: a SHARE that goes leaves the UPDATE.
        d = desk("UPDATE below, SHARE above");
        d.ask(0, "BEGIN", "BEGIN T");
        d.ask(0, "SELECT k FROM t WHERE k = 1 FOR UPDATE", "i (1) SELECT 1 T");
        d.ask(0, "SAVEPOINT a", "SAVEPOINT T");
        d.ask(0, "SELECT k FROM t WHERE k = 1 FOR SHARE", "i (1) SELECT 1 T");
        d.ask(1, "SELECT k FROM t WHERE k = 1 FOR SHARE", "waits");
        d.ask(0, "ROLLBACK TO a", "ROLLBACK T");
        d.state(1, 5);
        d.ask(0, "COMMIT", "COMMIT I");
        d.then(1, "i (1) SELECT 1 I");
    }

    private static void unique() {
        Desk d = desk("unique");
        d.ask(0, "BEGIN", "BEGIN T");
        d.ask(0, "INSERT INTO t VALUES (5, 5)", "INSERT 1 T");
        d.ask(1, "INSERT INTO t VALUES (4, 4), (5, 6)", "waits");
        d.ask(2, "UPDATE t SET k = 5 WHERE k = 1", "waits");
        d.ask(0, "COMMIT", "COMMIT I");
        d.then(1, "23505 I");
        d.then(2, "23505 I");
        d.ask(0, "BEGIN", "BEGIN T");
        d.ask(0, "INSERT INTO t VALUES (6, 6)", "INSERT 1 T");
        d.ask(1, "INSERT INTO t VALUES (6, 7)", "waits");
        d.ask(0, "ROLLBACK", "ROLLBACK I");
        d.then(1, "INSERT 1 I");
        d.ask(0, "BEGIN", "BEGIN T");
        d.ask(0, "DELETE FROM t WHERE k = 6", "DELETE 1 T");
        d.ask(0, "INSERT INTO t VALUES (6, 8)", "INSERT 1 T");
        d.ask(0, "DELETE FROM t WHERE k = 6", "DELETE 1 T");
        d.ask(1, "INSERT INTO t VALUES (6, 9)", "waits");
        d.ask(0, "COMMIT", "COMMIT I");
        d.then(1, "INSERT 1 I");
        d.ask(0, "BEGIN", "BEGIN T");
        d.ask(0, "DELETE FROM t WHERE k = 6", "DELETE 1 T");
        d.ask(1, "INSERT INTO t VALUES (6, 9)", "waits");
        d.ask(0, "ROLLBACK", "ROLLBACK I");
        d.then(1, "23505 I");
        // An update that keeps its value.
        d.ask(0, "UPDATE t SET k = k, v = v + 1", "UPDATE 5 I");
        d.ask(0, "UPDATE t SET k = k, v = v + 1", "UPDATE 5 I");
        d.ask(0, "BEGIN", "BEGIN T");
        d.ask(0, "UPDATE t SET k = 60 WHERE k = 6", "UPDATE 1 T");
        d.ask(0, "UPDATE t SET k = 6 WHERE k = 60", "UPDATE 1 T");
        d.ask(0, "UPDATE t SET k = 1 WHERE k = 6", "23505 F");
        d.ask(0, "ROLLBACK", "ROLLBACK I");
        // A new unique index looks at what lasts alone, and not at NULLs.
        d.ask(0, "CREATE TABLE n (a INT)", "CREATE I");
        d.ask(0, "INSERT INTO n VALUES (1), (NULL), (2), (NULL), (2)", "INSERT 5 I");
        d.ask(0, "CREATE UNIQUE INDEX ON n (a)", "23505 I");
        d.ask(0, "UPDATE n SET a = 3 WHERE a = 2", "UPDATE 2 I");
        d.ask(0, "CREATE UNIQUE INDEX ON n (a)", "23505 I");
        d.ask(0, "DELETE FROM n WHERE a = 3", "DELETE 2 I");
        d.ask(0, "BEGIN", "BEGIN T");
        d.ask(0, "INSERT INTO n VALUES (1), (1)", "INSERT 2 T");
        d.ask(0, "ROLLBACK", "ROLLBACK I");
        d.ask(0, "BEGIN", "BEGIN T");
        d.ask(0, "DELETE FROM n WHERE a = 1", "DELETE 1 T");
        d.ask(0, "ROLLBACK", "ROLLBACK I");
        d.count(6, 1);
        d.ask(0, "CREATE UNIQUE INDEX ON n (a)", "CREATE I");
        d.count(6, 2);
        d.ask(0, "INSERT INTO n VALUES (1)", "23505 I");
        d.ask(0, "INSERT INTO n VALUES (NULL), (2), (3)", "INSERT 3 I");
        // Two unique indexes, in the order of their making.
        d.ask(0, "CREATE TABLE u (a INT UNIQUE, b INT UNIQUE)", "CREATE I");
        d.ask(0, "BEGIN", "BEGIN T");
        d.ask(0, "INSERT INTO u VALUES (1, 1)", "INSERT 1 T");
        d.ask(1, "BEGIN", "BEGIN T");
        d.ask(1, "INSERT INTO u VALUES (2, 2)", "INSERT 1 T");
        d.ask(2, "INSERT INTO u VALUES (2, 1)", "waits");
        d.ask(0, "ROLLBACK", "ROLLBACK I");
        d.state(2, 5);
        d.ask(1, "ROLLBACK", "ROLLBACK I");
        d.then(2, "INSERT 1 I");
    }

    private static void uniqueRepeatable() {
        Desk d = desk("unique, repeatable read");
        d.ask(1, "BEGIN REPEATABLE READ", "BEGIN T");
        d.ask(1, "SELECT COUNT(*) FROM t", "i (3) SELECT 1 T");
        d.ask(1, "SAVEPOINT a", "SAVEPOINT T");
        d.ask(0, "INSERT INTO t VALUES (9, 9)", "INSERT 1 I");
        d.ask(1, "INSERT INTO t VALUES (9, 9)", "40001 F");
        d.ask(1, "ROLLBACK TO a", "ROLLBACK T");
        d.ask(0, "DELETE FROM t WHERE k = 3", "DELETE 1 I");
        d.ask(1, "INSERT INTO t VALUES (3, 3)", "40001 F");
        d.ask(1, "ROLLBACK TO a", "ROLLBACK T");
        d.ask(1, "INSERT INTO t VALUES (1, 3)", "23505 F");
        d.ask(1, "ROLLBACK TO a", "ROLLBACK T");
        d.ask(1, "DELETE FROM t WHERE k = 1", "DELETE 1 T");
        d.ask(1, "INSERT INTO t VALUES (1, 3)", "INSERT 1 T");
        d.ask(1, "COMMIT", "COMMIT I");
        d.ask(1, "BEGIN REPEATABLE READ", "BEGIN T");
        d.ask(1, "INSERT INTO t VALUES (3, 33)", "INSERT 1 T");
        d.ask(1, "COMMIT", "COMMIT I");
        d.ask(0, "SELECT * FROM t", "ii (1,3) (2,20) (3,33) (9,9) SELECT 4 I");
    }

    private static void commands() {
        Desk d = desk("commands");
        // What a command writes it does not see itself.
        d.ask(0, "BEGIN", "BEGIN T");
        d.ask(0, "INSERT INTO t SELECT k + 10, v FROM t", "INSERT 3 T");
        d.ask(0, "INSERT INTO t SELECT k + 20, v FROM t", "INSERT 6 T");
        d.ask(0, "UPDATE t SET v = v + 1", "UPDATE 12 T");
        d.ask(0, "DELETE FROM t WHERE k > 10", "DELETE 9 T");
        d.ask(0, "SELECT * FROM t", "ii (1,11) (2,21) (3,31) SELECT 3 T");
        d.ask(0, "COMMIT", "COMMIT I");
        d.count(2, 3 + 9 + 12);
        d.count(1, 24);
        d.ask(0, "VACUUM t", "VACUUM 21 I");
        d.count(1, 3);
        d.count(2, 24);
    }

    private static void versionsFull() {
        Desk d = desk("versions full");
        d.ask(0, "CREATE TABLE n (k INT)", "CREATE I");
        d.ask(0, "INSERT INTO n VALUES (1)", "INSERT 1 I");
        for (int i = 1; i <= 256; i *= 2) {
            d.ask(0, "INSERT INTO n SELECT k + " + i + " FROM n", "INSERT " + i + " I");
        }
        d.count(1, 515);
        d.ask(0, "INSERT INTO n SELECT k FROM n WHERE k <= 485", "INSERT 485 I");
        d.count(1, 1000);
        d.ask(0, "INSERT INTO n VALUES (0)", "53100 I");
        d.ask(0, "INSERT INTO t VALUES (1, 0)", "23505 I");
        d.ask(0, "UPDATE t SET v = 0 WHERE k = 1", "53100 I");
        d.ask(0, "SELECT v FROM t WHERE k = 1", "i (10) SELECT 1 I");
        d.ask(0, "DELETE FROM n WHERE k > 500", "DELETE 12 I");
        d.ask(0, "VACUUM n", "VACUUM 12 I");
        d.ask(0, "INSERT INTO n SELECT k FROM n WHERE k < 100", "53100 I");
        d.count(1, 1000);
        d.count(2, 1012);
        d.ask(0, "SELECT COUNT(*) FROM n", "i (985) SELECT 1 I");
        d.ask(0, "VACUUM n", "VACUUM 12 I");
        // 12000 in all: each round makes 12 that go again, or more when more are gone.
        d.ask(0, "DELETE FROM n WHERE k > 100", "DELETE " + (985 - 200) + " I");
        d.ask(0, "VACUUM n", "VACUUM 785 I");
        int made = 1012;
        while (made + 797 <= 12000) {
            d.ask(0, "INSERT INTO n SELECT a.k FROM n a, n b WHERE b.k < 3", "53100 I");
            d.ask(0, "VACUUM n", "VACUUM 797 I");
            made += 797;
            d.count(2, made);
        }
        d.ask(0, "INSERT INTO n SELECT a.k FROM n a, n b WHERE b.k < 3", "53100 I");
        d.count(2, 12000);
        d.ask(0, "VACUUM n", "VACUUM " + (12000 - made) + " I");
        d.ask(0, "INSERT INTO n VALUES (0)", "53100 I");
        d.ask(0, "UPDATE n SET k = 0 WHERE k = 1", "53100 I");
        d.ask(0, "DELETE FROM n WHERE k = 1", "DELETE 2 I");
    }
}
