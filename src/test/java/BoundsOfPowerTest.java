/** Promises 8, 9 and 12, sentence by sentence: the bounds of points, of what is there again, of counts and VACUUM (POWER). */
public final class BoundsOfPowerTest {
    public static void main(String[] args) {
        pointsOfVersions();
        pointsOfACommit();
        commitWithoutANumber();
        pointsOfOneStatement();
        pointsOfTables();
        pointsOfErrors();
        pointsOfVacuum();
        pointsOfRows();
        pointsBehindOthers();
        noSessionIsOpen();
        allOthersAreAborted();
        countsOfACommit();
        countsOfOthers();
        countsGoOn();
        versionNumbersGoOn();
        whatIsGone();
        downAndUpAgain();
        deadOfAllTables();
        deadWithoutASnapshot();
        deadForEverySnapshot();
        snapshotsOfStatements();
        snapshotOfOneThatWaits();
        snapshotOfOneThatFailed();
        vacuumOfAborted();
        vacuumOfNothing();
        Desk.end("BoundsOfPowerTest");
    }

    private static Desk desk(String name) {
        Desk d = Desk.with(name, 3);
        d.ask(0, "CREATE TABLE t (k INT UNIQUE, v INT)", "CREATE I");
        d.ask(0, "INSERT INTO t VALUES (1,10),(2,20)", "INSERT 2 I");
        return d;
    }

    private static void up(Desk d) {
        d.count(0, 0);
        d.due("start", d.x.start(), true);
        d.count(0, 1);
        for (int s = 0; s < 3; s++) {
            d.due("open " + s, d.x.open(s), true);
        }
    }

    /** The power goes at the (n + 1)-th point of a statement that has so many of them. */
    private static void points(String name, String[] before, String text, int points, String answer) {
        for (int n = 0; n <= points; n++) {
            Desk d = desk(name + ", charge " + n);
            for (String one : before) {
                d.due("send " + one, d.send(0, one), 1);
            }
            d.due("charge", d.x.charge(n), true);
            d.ask(0, text, n < points ? "power" : answer);
            if (n == points) {
                // The next point, of whatever it is, takes the power.
                d.ask(1, "CHECKPOINT", "power");
            }
            d.count(0, 0);
        }
    }

    // "POINTS: each version that is made or ended (before it is)"
    private static void pointsOfVersions() {
        String[] begin = {"BEGIN"};
        points("INSERT", begin, "INSERT INTO t VALUES (3, 3)", 1, "INSERT 1 T");
        points("INSERT of two", begin, "INSERT INTO t VALUES (3, 3), (4, 4)", 2, "INSERT 2 T");
        points("INSERT of a query", begin, "INSERT INTO t SELECT k + 2, v FROM t", 2, "INSERT 2 T");
        points("UPDATE", begin, "UPDATE t SET v = 0 WHERE k = 1", 2, "UPDATE 1 T");
        points("UPDATE of two", begin, "UPDATE t SET v = 0", 4, "UPDATE 2 T");
        points("DELETE", begin, "DELETE FROM t", 2, "DELETE 2 T");
        points("DELETE of none", begin, "DELETE FROM t WHERE FALSE", 0, "DELETE 0 T");
        points("FOR UPDATE", begin, "SELECT k FROM t FOR UPDATE", 0, "i (1) (2) SELECT 2 T");
        points("SELECT", begin, "SELECT k FROM t", 0, "i (1) (2) SELECT 2 T");
        points("LOCK", begin, "LOCK t SHARE", 0, "LOCK T");
        points("SAVEPOINT", begin, "SAVEPOINT a", 0, "SAVEPOINT T");
    }

    // "for a COMMIT (its statement, ...) with a running number two: before the commit, and behind it"
    private static void pointsOfACommit() {
        points("COMMIT", new String[] {"BEGIN", "INSERT INTO t VALUES (3, 3)"}, "COMMIT", 2, "COMMIT I");
        points("COMMIT of a lock", new String[] {"BEGIN", "SELECT k FROM t FOR SHARE"}, "COMMIT", 2, "COMMIT I");
        points("COMMIT of several numbers", new String[] {"BEGIN", "SAVEPOINT a", "SAVEPOINT b", "DELETE FROM t"},
            "COMMIT", 2, "COMMIT I");
        // The number of level 0 runs still, though what was done is undone.
        points("COMMIT behind ROLLBACK TO", new String[] {"BEGIN", "SAVEPOINT a", "DELETE FROM t", "ROLLBACK TO a"},
            "COMMIT", 2, "COMMIT I");
        points("ROLLBACK", new String[] {"BEGIN", "DELETE FROM t"}, "ROLLBACK", 0, "ROLLBACK I");
        points("ROLLBACK TO", new String[] {"BEGIN", "SAVEPOINT a", "DELETE FROM t"}, "ROLLBACK TO a", 0, "ROLLBACK T");
        points("RELEASE", new String[] {"BEGIN", "SAVEPOINT a", "DELETE FROM t"}, "RELEASE a", 0, "RELEASE T");
        for (int n = 0; n <= 1; n++) {
            Desk d = desk("the commit is done at its second point: " + n);
            d.ask(0, "BEGIN", "BEGIN T");
            d.ask(0, "DELETE FROM t WHERE k = 1", "DELETE 1 T");
            d.x.charge(n);
            d.ask(0, "COMMIT", "power");
            up(d);
            d.ask(0, "SELECT k FROM t", n == 0 ? "i (1) (2) SELECT 2 I" : "i (2) SELECT 1 I");
            d.count(4, 1 + n);
        }
    }

    private static void commitWithoutANumber() {
        points("COMMIT without a number", new String[] {"BEGIN", "SELECT k FROM t"}, "COMMIT", 0, "COMMIT I");
        points("COMMIT of nothing", new String[] {"BEGIN"}, "COMMIT", 0, "COMMIT I");
        points("COMMIT of what failed", new String[] {"BEGIN", "DELETE FROM t", "X"}, "COMMIT", 0, "COMMIT I");
        points("COMMIT of UPDATE 0", new String[] {"BEGIN", "UPDATE t SET v = 1 WHERE k = 9"}, "COMMIT", 0, "COMMIT I");
    }

    // "or the end of one of its own"
    private static void pointsOfOneStatement() {
        String[] none = {};
        points("INSERT of its own", none, "INSERT INTO t VALUES (3, 3)", 3, "INSERT 1 I");
        points("UPDATE of its own", none, "UPDATE t SET v = 0", 6, "UPDATE 2 I");
        points("DELETE of its own", none, "DELETE FROM t", 4, "DELETE 2 I");
        points("FOR UPDATE of its own", none, "SELECT k FROM t FOR UPDATE", 2, "i (1) (2) SELECT 2 I");
        points("SELECT of its own", none, "SELECT k FROM t", 0, "i (1) (2) SELECT 2 I");
        points("UPDATE 0 of its own", none, "UPDATE t SET v = 0 WHERE k = 9", 0, "UPDATE 0 I");
        points("PREPARE", none, "PREPARE p AS DELETE FROM t", 0, "PREPARE I");
        points("BEGIN", none, "BEGIN", 0, "BEGIN T");
        points("EXECUTE", new String[] {"PREPARE p AS DELETE FROM t"}, "EXECUTE p", 4, "DELETE 2 I");
    }

    // "for CREATE, DROP and CHECKPOINT two likewise", "CREATE and DROP behind their first"
    private static void pointsOfTables() {
        String[] none = {};
        points("CREATE TABLE", none, "CREATE TABLE u (k INT UNIQUE, v INT UNIQUE)", 2, "CREATE I");
        points("CREATE INDEX", none, "CREATE INDEX ON t (v)", 2, "CREATE I");
        points("CREATE UNIQUE INDEX", none, "CREATE UNIQUE INDEX ON t (v)", 2, "CREATE I");
        points("DROP TABLE", none, "DROP TABLE t", 2, "DROP I");
        points("CHECKPOINT", none, "CHECKPOINT", 2, "CHECKPOINT I");
        points("VACUUM", none, "VACUUM t", 2, "VACUUM 0 I");
        String[] texts = {"CREATE TABLE u (k INT UNIQUE)", "CREATE UNIQUE INDEX ON t (v)", "DROP TABLE t"};
        String[] counts = {"2 2", "1 2", "0 0"};
        for (int i = 0; i < texts.length; i++) {
            for (int n = 0; n <= 1; n++) {
                Desk d = desk(texts[i] + ", done behind the first: " + n);
                d.x.charge(n);
                d.ask(0, texts[i], "power");
                up(d);
                d.due("tables and indexes", d.x.count(5) + " " + d.x.count(6), n == 0 ? "1 1" : counts[i]);
                d.ask(0, "INSERT INTO t VALUES (3, 10)", n == 0 ? "INSERT 1 I" : i == 0 ? "INSERT 1 I" : i == 1 ? "23505 I"
                    : "42P01 I");
            }
        }
    }

    // What is refused has none of its points.
    private static void pointsOfErrors() {
        String[] none = {};
        points("CREATE TABLE that is there", none, "CREATE TABLE t (k INT)", 0, "42P07 I");
        points("CREATE INDEX of no column", none, "CREATE INDEX ON t (x)", 0, "42703 I");
        points("CREATE UNIQUE INDEX that is not", new String[] {"UPDATE t SET v = 7"}, "CREATE UNIQUE INDEX ON t (v)", 0,
            "23505 I");
        points("DROP of none", none, "DROP TABLE u", 0, "42P01 I");
        points("INSERT that is not unique", none, "INSERT INTO t VALUES (1, 1)", 0, "23505 I");
        points("INSERT whose second row is not unique", none, "INSERT INTO t VALUES (3, 1), (1, 1)", 1, "23505 I");
        points("CHECKPOINT in a transaction", new String[] {"BEGIN"}, "CHECKPOINT", 0, "25001 F");
    }

    // "for VACUUM two", "(VACUUM counts as done behind its second point ...)"
    private static void pointsOfVacuum() {
        for (int n = 0; n <= 2; n++) {
            Desk d = desk("VACUUM, charge " + n);
            d.ask(0, "DELETE FROM t WHERE k = 1", "DELETE 1 I");
            d.ask(0, "INSERT INTO t VALUES (5, 5), (2, 2)", "23505 I");
            d.x.charge(n);
            d.ask(0, "VACUUM t", n < 2 ? "power" : "VACUUM 2 I");
            if (n < 2) {
                up(d);
            }
            // start() removes the dead likewise; the counts tell whether it was done.
            d.count(1, 1);
            d.count(2, n < 2 ? 2 : 3);
            d.count(3, n < 2 ? 2 : 3);
        }
    }

    // "NOT NULL, unique, the limits, number, point, v is ended, arrows, point, the new one is made, arrows"
    private static void pointsOfRows() {
        // A number is given before the point, the version is made behind it.
        Desk d = desk("the number before the point");
        d.ask(1, "BEGIN", "BEGIN T");
        d.ask(1, "INSERT INTO t VALUES (7, 7)", "INSERT 1 T");
        d.x.charge(0);
        d.ask(0, "INSERT INTO t VALUES (8, 8)", "power");
        up(d);
        d.due("all", d.all(), "states 1 1 1 0 0 0, counts 1 2 2 1 1 1 1 0 0");
        // Between the end of the old and the making of the new: both undone.
        d.x.charge(1);
        d.ask(0, "UPDATE t SET k = 9 WHERE k = 1", "power");
        up(d);
        d.ask(0, "SELECT * FROM t", "ii (1,10) (2,20) SELECT 2 I");
        d.ask(0, "UPDATE t SET k = 9 WHERE k = 1", "UPDATE 1 I");
    }

    // Points of one who goes on in another's call count as they come.
    private static void pointsBehindOthers() {
        // 0's COMMIT has two points, 1's DELETE of two rows two, its commit two.
        for (int n = 0; n <= 6; n++) {
            Desk d = desk("who goes on, charge " + n);
            d.ask(0, "BEGIN", "BEGIN T");
            d.ask(0, "UPDATE t SET v = 0 WHERE k = 1", "UPDATE 1 T");
            d.ask(1, "DELETE FROM t", "waits");
            d.x.charge(n);
            d.ask(0, "COMMIT", n < 6 ? "power" : "COMMIT I");
            if (n < 6) {
                up(d);
            } else {
                d.then(1, "DELETE 2 I");
            }
            d.ask(0, "SELECT v FROM t", n < 1 ? "i (10) (20) SELECT 2 I" : n < 5 ? "i (0) (20) SELECT 2 I" : "i SELECT 0 I");
            d.count(4, n < 1 ? 1 : n < 5 ? 2 : 3);
        }
    }

    // "the server is DOWN, no session is open"
    private static void noSessionIsOpen() {
        Desk d = desk("no session is open");
        for (int s = 3; s < 6; s++) {
            d.x.open(s);
        }
        d.ask(1, "BEGIN", "BEGIN T");
        d.ask(2, "BEGIN", "BEGIN T");
        d.ask(2, "X", "42601 F");
        d.ask(1, "LOCK t EXCLUSIVE", "LOCK T");
        d.ask(3, "DELETE FROM t", "waits");
        d.due("all", d.all(), "states 1 2 3 5 1 1, counts 1 2 2 1 1 1 1 0 1");
        d.x.charge(0);
        d.ask(0, "CHECKPOINT", "power");
        d.due("all", d.all(), "states 0 0 0 0 0 0, counts 0 0 0 0 0 0 0 0 0");
        d.due("start", d.x.start(), true);
        d.due("all", d.all(), "states 0 0 0 0 0 0, counts 1 2 2 1 1 1 1 0 0");
    }

    // "start(): all transactions that had not committed are aborted"
    private static void allOthersAreAborted() {
        Desk d = desk("all others are aborted");
        d.ask(1, "BEGIN", "BEGIN T");
        d.ask(1, "DELETE FROM t WHERE k = 1", "DELETE 1 T");
        d.ask(1, "SAVEPOINT a", "SAVEPOINT T");
        d.ask(1, "INSERT INTO t VALUES (3, 30)", "INSERT 1 T");
        d.ask(2, "BEGIN SERIALIZABLE", "BEGIN T");
        d.ask(2, "UPDATE t SET v = 0 WHERE k = 2", "UPDATE 1 T");
        d.x.charge(1);
        d.ask(0, "CHECKPOINT", "power");
        up(d);
        d.ask(0, "SELECT * FROM t", "ii (1,10) (2,20) SELECT 2 I");
        d.count(1, 2);
        // Nobody is in the way any more.
        d.ask(0, "UPDATE t SET v = v + 1", "UPDATE 2 I");
        d.ask(0, "INSERT INTO t VALUES (3, 31)", "INSERT 1 I");
        d.ask(0, "DROP TABLE t", "DROP I");
    }

    // "The counts ... are what they were when last a commit was between its points"
    private static void countsOfACommit() {
        Desk d = desk("counts of a commit");
        d.ask(1, "BEGIN", "BEGIN T");
        d.ask(1, "INSERT INTO t VALUES (5, 5), (6, 6)", "INSERT 2 T");
        d.ask(2, "BEGIN", "BEGIN T");
        d.ask(2, "SELECT k FROM t WHERE k = 1 FOR UPDATE", "i (1) SELECT 1 T");
        d.ask(0, "INSERT INTO t VALUES (7, 7)", "INSERT 1 I");
        d.due("all", d.all(), "states 1 2 2 0 0 0, counts 1 5 5 4 2 1 1 0 0");
        d.ask(0, "INSERT INTO t VALUES (8, 8), (1, 1)", "23505 I");
        d.ask(0, "BEGIN", "BEGIN T");
        d.ask(0, "SELECT k FROM t", "i (1) (2) (7) SELECT 3 T");
        // A commit without a number is none that counts.
        d.ask(0, "COMMIT", "COMMIT I");
        d.due("all", d.all(), "states 1 2 2 0 0 0, counts 1 6 6 5 2 1 1 0 0");
        d.x.charge(0);
        d.ask(0, "CHECKPOINT", "power");
        d.x.start();
        d.due("all", d.all(), "states 0 0 0 0 0 0, counts 1 3 5 4 2 1 1 0 0");
    }

    // "or CREATE, DROP, VACUUM or CHECKPOINT behind its last one"
    private static void countsOfOthers() {
        String[] texts = {"CREATE TABLE u (k INT)", "CREATE INDEX ON t (v)", "DROP TABLE z", "VACUUM t", "VACUUM z", "CHECKPOINT"};
        for (String text : texts) {
            for (int n = 0; n <= 2; n++) {
                Desk d = desk(text + ", counts, charge " + n);
                d.ask(0, "CREATE TABLE z (k INT)", "CREATE I");
                d.ask(1, "BEGIN", "BEGIN T");
                d.ask(1, "SELECT k FROM t WHERE k = 1 FOR UPDATE", "i (1) SELECT 1 T");
                d.ask(0, "INSERT INTO t VALUES (9, 9), (2, 2)", "23505 I");
                d.x.charge(n);
                d.due("send " + text, d.send(0, text), n < 2 ? 3 : 1);
                if (n == 2) {
                    d.ask(0, "CHECKPOINT", "power");
                }
                up(d);
                d.count(2, n < 2 ? 2 : 3);
                d.count(3, n < 2 ? 1 : 3);
                d.count(4, 1);
            }
        }
    }

    // "and go on from there"
    private static void countsGoOn() {
        Desk d = desk("counts go on");
        for (int i = 1; i <= 5; i++) {
            d.ask(1, "BEGIN", "BEGIN T");
            d.ask(1, "INSERT INTO t VALUES (50, 1), (51, 1), (52, 1)", "INSERT 3 T");
            d.x.charge(0);
            d.ask(0, "CHECKPOINT", "power");
            up(d);
            d.due("all", d.all(), "states 1 1 1 0 0 0, counts 1 " + (1 + i) + " " + (1 + i) + " " + i + " " + i + " 1 1 0 0");
            d.ask(0, "INSERT INTO t VALUES (" + (10 + i) + ", 1)", "INSERT 1 I");
        }
    }

    // What is made later has a higher number than what is there.
    private static void versionNumbersGoOn() {
        Desk d = Desk.with("numbers of versions", 3);
        d.ask(0, "CREATE TABLE t (k INT)", "CREATE I");
        d.ask(0, "INSERT INTO t VALUES (1)", "INSERT 1 I");
        d.ask(1, "BEGIN", "BEGIN T");
        d.ask(1, "INSERT INTO t VALUES (1)", "INSERT 1 T");
        d.ask(0, "INSERT INTO t VALUES (1)", "INSERT 1 I");
        d.x.charge(0);
        d.ask(0, "CHECKPOINT", "power");
        up(d);
        d.count(2, 3);
        d.ask(0, "INSERT INTO t VALUES (1)", "INSERT 1 I");
        d.count(2, 4);
        // The first of the like ones is still the oldest: deleting it leaves the others.
        d.ask(0, "BEGIN", "BEGIN T");
        d.ask(0, "SELECT k FROM t LIMIT 2 FOR UPDATE", "i (1) (1) SELECT 2 T");
        d.ask(1, "SELECT k FROM t LIMIT 1 FOR UPDATE", "waits");
        d.ask(0, "COMMIT", "COMMIT I");
        d.then(1, "i (1) SELECT 1 I");
    }

    // "Prepared statements, savepoints, locks and reads are gone."
    private static void whatIsGone() {
        Desk d = desk("what is gone");
        d.ask(0, "PREPARE p AS SELECT k FROM t", "PREPARE I");
        d.ask(1, "BEGIN SERIALIZABLE", "BEGIN T");
        d.ask(1, "SELECT COUNT(*) FROM t", "i (2) SELECT 1 T");
        d.ask(1, "SAVEPOINT a", "SAVEPOINT T");
        d.ask(1, "SELECT k FROM t FOR UPDATE", "i (1) (2) SELECT 2 T");
        d.ask(1, "LOCK t EXCLUSIVE", "LOCK T");
        d.x.charge(0);
        d.ask(0, "CHECKPOINT", "power");
        up(d);
        d.ask(0, "EXECUTE p", "26000 I");
        d.ask(1, "ROLLBACK TO a", "25P01 I");
        d.ask(0, "LOCK t EXCLUSIVE", "25P01 I");
        d.ask(0, "UPDATE t SET v = 0", "UPDATE 2 I");
        d.ask(0, "BEGIN SERIALIZABLE", "BEGIN T");
        d.ask(0, "SELECT COUNT(*) FROM t", "i (2) SELECT 1 T");
        d.ask(0, "INSERT INTO t VALUES (5, 5)", "INSERT 1 T");
        d.ask(0, "COMMIT", "COMMIT I");
        // Numbers are given anew: a row that such a number had locked or ended is free.
        d = desk("numbers given anew");
        d.ask(1, "BEGIN", "BEGIN T");
        d.ask(1, "SELECT k FROM t WHERE k = 1 FOR UPDATE", "i (1) SELECT 1 T");
        d.ask(1, "DELETE FROM t WHERE k = 2", "DELETE 1 T");
        d.count(3, 2);
        d.x.charge(0);
        d.ask(0, "CHECKPOINT", "power");
        up(d);
        d.ask(0, "BEGIN", "BEGIN T");
        d.ask(0, "INSERT INTO t VALUES (3, 30)", "INSERT 1 T");
        d.count(3, 2);
        d.ask(2, "UPDATE t SET v = 0 WHERE k < 3", "UPDATE 2 I");
    }

    private static void downAndUpAgain() {
        Desk d = desk("down and up again");
        for (int i = 0; i < 10; i++) {
            d.x.charge(0);
            d.ask(0, "CHECKPOINT", "power");
            up(d);
            d.ask(0, "SELECT * FROM t", "ii (1,10) (2,20) SELECT 2 I");
        }
        d.due("all", d.all(), "states 1 1 1 0 0 0, counts 1 2 2 1 1 1 1 0 0");
    }

    // "start() removes the dead of all tables likewise"
    private static void deadOfAllTables() {
        Desk d = desk("the dead of all tables");
        d.ask(0, "CREATE TABLE u (k INT)", "CREATE I");
        d.ask(0, "INSERT INTO u VALUES (1), (2), (3)", "INSERT 3 I");
        d.ask(0, "DELETE FROM u WHERE k < 3", "DELETE 2 I");
        d.ask(0, "UPDATE t SET v = 0", "UPDATE 2 I");
        d.ask(1, "BEGIN REPEATABLE READ", "BEGIN T");
        d.ask(1, "SELECT k FROM u", "i (3) SELECT 1 T");
        d.ask(0, "DELETE FROM u", "DELETE 1 I");
        d.count(1, 7);
        d.x.charge(0);
        d.ask(0, "CHECKPOINT", "power");
        up(d);
        d.count(1, 2);
        d.count(2, 7);
        d.ask(0, "VACUUM t", "VACUUM 0 I");
        d.ask(0, "VACUUM u", "VACUUM 0 I");
    }

    // "(without such a one each committed end)"
    private static void deadWithoutASnapshot() {
        Desk d = desk("without a snapshot");
        d.ask(1, "BEGIN REPEATABLE READ", "BEGIN T");
        d.ask(2, "BEGIN", "BEGIN T");
        d.ask(2, "LOCK t ACCESS SHARE", "LOCK T");
        d.ask(0, "DELETE FROM t WHERE k = 1", "DELETE 1 I");
        // Neither has taken one.
        d.ask(0, "VACUUM t", "VACUUM 1 I");
        d.count(1, 1);
    }

    // "the end is committed in a commit that every live snapshot (of a transaction, as long as it has it ...) has"
    private static void deadForEverySnapshot() {
        Desk d = desk("every live snapshot");
        d.ask(1, "BEGIN REPEATABLE READ", "BEGIN T");
        d.ask(1, "SELECT COUNT(*) FROM t", "i (2) SELECT 1 T");
        d.ask(0, "DELETE FROM t WHERE k = 1", "DELETE 1 I");
        d.ask(2, "BEGIN SERIALIZABLE", "BEGIN T");
        d.ask(2, "SELECT COUNT(*) FROM t", "i (1) SELECT 1 T");
        d.ask(0, "VACUUM t", "VACUUM 0 I");
        d.ask(1, "SELECT COUNT(*) FROM t", "i (2) SELECT 1 T");
        d.ask(1, "COMMIT", "COMMIT I");
        d.ask(0, "VACUUM t", "VACUUM 1 I");
        d.ask(0, "DELETE FROM t WHERE k = 2", "DELETE 1 I");
        d.ask(0, "VACUUM t", "VACUUM 0 I");
        d.ask(2, "SELECT COUNT(*) FROM t", "i (1) SELECT 1 T");
        d.due("close", d.x.close(2), true);
        d.ask(0, "VACUUM t", "VACUUM 1 I");
        d.count(1, 0);
    }

    // "of a READ COMMITTED one, that of its latest statement"
    private static void snapshotsOfStatements() {
        Desk d = desk("of its latest statement");
        d.ask(1, "BEGIN", "BEGIN T");
        d.ask(1, "SELECT COUNT(*) FROM t", "i (2) SELECT 1 T");
        d.ask(0, "DELETE FROM t WHERE k = 1", "DELETE 1 I");
        d.ask(0, "VACUUM t", "VACUUM 0 I");
        // LOCK and SAVEPOINT are no such statements.
        d.ask(1, "LOCK t ACCESS SHARE", "LOCK T");
        d.ask(1, "SAVEPOINT a", "SAVEPOINT T");
        d.ask(0, "VACUUM t", "VACUUM 0 I");
        d.ask(1, "SELECT COUNT(*) FROM t", "i (1) SELECT 1 T");
        d.ask(0, "VACUUM t", "VACUUM 1 I");
        // A statement that is refused takes none; with its level 0 gone there is none.
        d.ask(0, "DELETE FROM t WHERE k = 2", "DELETE 1 I");
        d.ask(1, "SELECT x FROM t", "42703 F");
        d.ask(0, "VACUUM t", "VACUUM 0 I");
        d.ask(1, "ROLLBACK TO a", "ROLLBACK T");
        d.ask(0, "VACUUM t", "VACUUM 0 I");
        d.ask(1, "ROLLBACK", "ROLLBACK I");
        d.ask(0, "VACUUM t", "VACUUM 1 I");
    }

    private static void snapshotOfOneThatWaits() {
        Desk d = desk("of one that waits");
        d.ask(0, "BEGIN", "BEGIN T");
        d.ask(0, "UPDATE t SET v = 0 WHERE k = 2", "UPDATE 1 T");
        // A statement of its own, with its snapshot, waits for row 2; it is one of those that VACUUM minds.
        d.ask(1, "UPDATE t SET v = v + 1", "waits");
        d.ask(2, "INSERT INTO t VALUES (9, 9)", "INSERT 1 I");
        d.ask(2, "DELETE FROM t WHERE k = 9", "DELETE 1 I");
        d.ask(2, "VACUUM t", "VACUUM 0 I");
        d.ask(0, "COMMIT", "COMMIT I");
        d.then(1, "UPDATE 2 I");
        d.ask(2, "VACUUM t", "VACUUM 4 I");
        d.ask(2, "SELECT * FROM t", "ii (1,11) (2,1) SELECT 2 I");
        // One that waits for its table lock has none yet.
        d.ask(0, "BEGIN", "BEGIN T");
        d.ask(0, "LOCK t SHARE UPDATE EXCLUSIVE", "LOCK T");
        d.ask(1, "CREATE INDEX ON t (v)", "waits");
        d.ask(2, "DELETE FROM t", "waits");
        d.ask(0, "UPDATE t SET v = 5 WHERE k = 1", "40P01 F");
    }

    private static void snapshotOfOneThatFailed() {
        Desk d = desk("of one that failed");
        d.ask(1, "BEGIN REPEATABLE READ", "BEGIN T");
        d.ask(1, "SELECT COUNT(*) FROM t", "i (2) SELECT 1 T");
        d.ask(1, "SAVEPOINT a", "SAVEPOINT T");
        d.ask(0, "DELETE FROM t WHERE k = 1", "DELETE 1 I");
        d.ask(1, "X", "42601 F");
        // Behind a savepoint it has its snapshot still.
        d.ask(0, "VACUUM t", "VACUUM 0 I");
        d.ask(1, "ROLLBACK TO a", "ROLLBACK T");
        d.ask(1, "SELECT COUNT(*) FROM t", "i (2) SELECT 1 T");
        d.ask(1, "RELEASE a", "RELEASE T");
        d.ask(1, "X", "42601 F");
        d.ask(0, "VACUUM t", "VACUUM 1 I");
    }

    // "the maker is aborted"
    private static void vacuumOfAborted() {
        Desk d = desk("the maker is aborted");
        d.ask(1, "BEGIN REPEATABLE READ", "BEGIN T");
        d.ask(1, "SELECT COUNT(*) FROM t", "i (2) SELECT 1 T");
        d.ask(1, "INSERT INTO t VALUES (5, 5)", "INSERT 1 T");
        d.ask(1, "SAVEPOINT a", "SAVEPOINT T");
        d.ask(1, "INSERT INTO t VALUES (6, 6), (7, 7)", "INSERT 2 T");
        d.ask(1, "DELETE FROM t WHERE k = 5", "DELETE 1 T");
        d.ask(0, "VACUUM t", "VACUUM 0 I");
        d.ask(1, "ROLLBACK TO a", "ROLLBACK T");
        // No snapshot keeps what is aborted; an end that is aborted is none.
        d.ask(0, "VACUUM t", "VACUUM 2 I");
        d.ask(1, "SELECT k FROM t", "i (1) (2) (5) SELECT 3 T");
        d.ask(1, "ROLLBACK", "ROLLBACK I");
        d.ask(0, "VACUUM t", "VACUUM 1 I");
        d.count(1, 2);
        d.count(2, 5);
    }

    private static void vacuumOfNothing() {
        Desk d = desk("nothing is dead");
        d.ask(0, "VACUUM t", "VACUUM 0 I");
        d.ask(0, "DELETE FROM t", "DELETE 2 I");
        d.ask(0, "VACUUM t", "VACUUM 2 I");
        d.ask(0, "VACUUM t", "VACUUM 0 I");
        d.ask(0, "INSERT INTO t VALUES (1, 1)", "INSERT 1 I");
        d.due("all", d.all(), "states 1 1 1 0 0 0, counts 1 1 3 3 3 1 1 0 0");
    }
}
