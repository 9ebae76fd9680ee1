/** Promises 5 and 12, sentence by sentence: the bounds of versions, numbers, queries and writing (VERSIONS, WRITING). */
public final class BoundsOfVersionsTest {
    public static void main(String[] args) {
        thousandVersions();
        thousandForUpdate();
        thousandThroughAllTables();
        fullBehindOtherErrors();
        fullInTheMidst();
        fullAgainWithWaiting();
        twelveThousand();
        numbersOfLevels();
        numbersOfRows();
        noNumberWithoutNeed();
        snapshotBehindTheLocks();
        snapshotOfEachStatement();
        ownCommands();
        ownCommandsAgain();
        rollbackToKeepsItsLevel();
        releaseGivesToTheLevelBefore();
        orderOfVersions();
        emptyTables();
        fortyThousand();
        nothingCountsAsOne();
        rangesCount();
        twoThousandRows();
        limits();
        orderByTies();
        distinctNulls();
        leftOut();
        notNull();
        uniqueOfNull();
        uniqueIndexOverVersions();
        uniqueByNumbers();
        inThePlaceOfAnother();
        errorsOfLevels();
        Desk.end("BoundsOfVersionsTest");
    }

    /** A table n of the numbers 0 .. size - 1, by as few calls as possible. */
    private static void fill(Desk d, String table, int size) {
        StringBuilder b = new StringBuilder("INSERT INTO " + table + " VALUES (0)");
        int first = Math.min(size, 100);
        for (int i = 1; i < first; i++) {
            b.append(",(").append(i).append(")");
        }
        d.ask(0, b.toString(), "INSERT " + first + " I");
        int there = first;
        while (there < size) {
            int more = Math.min(there, size - there);
            d.ask(0, "INSERT INTO " + table + " SELECT k + " + there + " FROM " + table + " WHERE k < " + more,
                "INSERT " + more + " I");
            there += more;
        }
    }

    private static Desk filled(String name, int size) {
        Desk d = Desk.with(name, 3);
        d.ask(0, "CREATE TABLE n (k INT)", "CREATE I");
        fill(d, "n", size);
        d.count(1, size);
        return d;
    }

    private static Desk desk(String name) {
        Desk d = Desk.with(name, 3);
        d.ask(0, "CREATE TABLE t (k INT UNIQUE, v INT)", "CREATE I");
        d.ask(0, "INSERT INTO t VALUES (1,10),(2,20)", "INSERT 2 I");
        return d;
    }

    // "There are at most 1000 at a time (a 1001st isn't made ...): else 53100."
    private static void thousandVersions() {
        Desk d = filled("1000 versions", 999);
        d.ask(0, "INSERT INTO n VALUES (999)", "INSERT 1 I");
        d.count(1, 1000);
        int numbers = d.x.count(3);
        d.ask(0, "INSERT INTO n VALUES (1000)", "53100 I");
        d.count(1, 1000);
        d.count(2, 1000);
        d.count(3, numbers);
        d.ask(0, "SELECT COUNT(*) FROM n", "i (1000) SELECT 1 I");
        // One dead one gone is one place.
        d.ask(0, "DELETE FROM n WHERE k = 7", "DELETE 1 I");
        d.ask(0, "INSERT INTO n VALUES (7)", "53100 I");
        d.ask(0, "VACUUM n", "VACUUM 1 I");
        d.ask(0, "INSERT INTO n VALUES (7), (8)", "53100 I");
        d.count(1, 1000);
        d.ask(0, "SELECT COUNT(*) FROM n", "i (999) SELECT 1 I");
        d.ask(0, "VACUUM n", "VACUUM 1 I");
        d.ask(0, "INSERT INTO n VALUES (7)", "INSERT 1 I");
        d.ask(0, "INSERT INTO n VALUES (8)", "53100 I");
    }

    // "(a 1001st isn't made, for UPDATE either)"
    private static void thousandForUpdate() {
        Desk d = filled("1000 versions, UPDATE", 999);
        d.ask(0, "UPDATE n SET k = -1 WHERE k = 0", "UPDATE 1 I");
        d.count(1, 1000);
        d.ask(0, "UPDATE n SET k = -2 WHERE k = -1", "53100 I");
        d.count(1, 1000);
        d.count(2, 1000);
        // Its target was not ended: it is there, and may be deleted, which makes none.
        d.ask(0, "SELECT k FROM n WHERE k < 0", "i (-1) SELECT 1 I");
        d.ask(0, "UPDATE n SET k = 5 WHERE k = 5000", "UPDATE 0 I");
        d.ask(0, "DELETE FROM n WHERE k < 0", "DELETE 1 I");
        d.ask(0, "SELECT k FROM n WHERE k = 1 FOR UPDATE", "i (1) SELECT 1 I");
        d.count(1, 1000);
    }

    // "All versions are numbered ... (through all tables)"
    private static void thousandThroughAllTables() {
        Desk d = filled("1000 versions in two tables", 998);
        d.ask(0, "CREATE TABLE m (k INT)", "CREATE I");
        d.ask(0, "INSERT INTO m VALUES (1), (2)", "INSERT 2 I");
        d.ask(0, "INSERT INTO m VALUES (3)", "53100 I");
        d.ask(0, "INSERT INTO n VALUES (3)", "53100 I");
        d.ask(0, "DROP TABLE m", "DROP I");
        d.count(1, 998);
        d.ask(0, "INSERT INTO n VALUES (3), (4)", "INSERT 2 I");
        d.count(1, 1000);
        d.count(2, 1002);
    }

    // "So for a row that comes: NOT NULL, unique (which may wait), the limits of versions (53100), the number (53100), .."
    private static void fullBehindOtherErrors() {
        Desk d = Desk.with("53100 behind others", 2);
        d.ask(0, "CREATE TABLE n (k INT)", "CREATE I");
        d.ask(0, "CREATE TABLE u (a INT NOT NULL UNIQUE, b INT)", "CREATE I");
        fill(d, "n", 998);
        d.ask(0, "INSERT INTO u VALUES (1, 1), (2, 2)", "INSERT 2 I");
        int numbers = d.x.count(3);
        d.ask(0, "INSERT INTO u VALUES (NULL, 1)", "23502 I");
        d.ask(0, "INSERT INTO u VALUES (1, 1)", "23505 I");
        d.ask(0, "INSERT INTO u VALUES (3, 1)", "53100 I");
        d.ask(0, "UPDATE u SET a = NULL WHERE a = 1", "23502 I");
        d.ask(0, "UPDATE u SET a = 2 WHERE a = 1", "23505 I");
        d.ask(0, "UPDATE u SET a = 3 WHERE a = 1", "53100 I");
        d.ask(0, "INSERT INTO u VALUES (3, 1), (NULL, 1)", "53100 I");
        d.count(3, numbers);
        d.ask(0, "SELECT * FROM u", "ii (1,1) (2,2) SELECT 2 I");
    }

    // What a statement had made before it was full is undone, but there until it is vacuumed.
    private static void fullInTheMidst() {
        Desk d = filled("full in the midst", 990);
        d.ask(0, "BEGIN", "BEGIN T");
        d.ask(0, "INSERT INTO n VALUES (-1)", "INSERT 1 T");
        d.ask(0, "SAVEPOINT a", "SAVEPOINT T");
        d.ask(0, "INSERT INTO n SELECT k FROM n WHERE k < 20", "53100 F");
        d.count(1, 1000);
        d.ask(0, "ROLLBACK TO a", "ROLLBACK T");
        d.ask(0, "SELECT COUNT(*) FROM n", "i (991) SELECT 1 T");
        d.ask(1, "VACUUM n", "VACUUM 9 I");
        d.ask(0, "INSERT INTO n SELECT k FROM n WHERE k < 8", "INSERT 9 T");
        d.count(1, 1000);
        d.ask(0, "COMMIT", "COMMIT I");
    }

    // The limits are looked at when a row has waited, too.
    private static void fullAgainWithWaiting() {
        Desk d = Desk.with("full behind a wait", 3);
        d.ask(0, "CREATE TABLE n (k INT)", "CREATE I");
        d.ask(0, "CREATE TABLE u (a INT UNIQUE)", "CREATE I");
        fill(d, "n", 998);
        d.ask(1, "BEGIN", "BEGIN T");
        d.ask(1, "INSERT INTO u VALUES (1)", "INSERT 1 T");
        d.ask(2, "INSERT INTO u VALUES (1)", "waits");
        d.ask(0, "INSERT INTO n VALUES (998)", "INSERT 1 I");
        d.ask(1, "ROLLBACK", "ROLLBACK I");
        d.then(2, "53100 I");
    }

    // "and 12000 in all: else 53100"
    private static void twelveThousand() {
        Desk d = filled("12000 versions", 40);
        // Each INSERT that fails leaves 960 dead ones.
        for (int made = 40; made < 11560; made += 960) {
            d.count(2, made);
            d.ask(0, "INSERT INTO n SELECT a.k FROM n a, n b", "53100 I");
            d.ask(0, "VACUUM n", "VACUUM 960 I");
        }
        d.ask(0, "INSERT INTO n SELECT a.k FROM n a, n b LIMIT 439", "INSERT 439 I");
        d.count(2, 11999);
        d.ask(0, "INSERT INTO n VALUES (500)", "INSERT 1 I");
        d.count(2, 12000);
        int numbers = d.x.count(3);
        d.ask(0, "INSERT INTO n VALUES (6)", "53100 I");
        d.ask(0, "UPDATE n SET k = 6 WHERE k = 500", "53100 I");
        d.count(2, 12000);
        d.count(3, numbers);
        d.ask(0, "SELECT k FROM n WHERE k > 40", "i (500) SELECT 1 I");
        // VACUUM makes no room for more; what makes none goes on.
        d.ask(0, "DELETE FROM n WHERE k = 500", "DELETE 1 I");
        d.ask(0, "VACUUM n", "VACUUM 1 I");
        d.ask(0, "INSERT INTO n VALUES (6)", "53100 I");
        d.ask(0, "CREATE TABLE m (k INT)", "CREATE I");
        d.ask(0, "INSERT INTO m VALUES (6)", "53100 I");
        d.ask(0, "SELECT k FROM n LIMIT 1 FOR UPDATE", "i (0) SELECT 1 I");
    }

    // "a level gets a number when it first makes or ends a version or locks a row ... (those below first)"
    private static void numbersOfLevels() {
        for (String text : new String[] {"INSERT INTO t VALUES (9, 9)", "UPDATE t SET v = 1 WHERE k = 1",
            "DELETE FROM t WHERE k = 1", "SELECT k FROM t WHERE k = 1 FOR UPDATE", "SELECT k FROM t WHERE k = 1 FOR SHARE"}) {
            for (int levels = 0; levels <= 7; levels++) {
                Desk d = desk(text + " at level " + levels);
                d.ask(0, "BEGIN", "BEGIN T");
                for (int i = 0; i < levels; i++) {
                    d.ask(0, "SAVEPOINT s" + i, "SAVEPOINT T");
                }
                d.count(3, 1);
                d.due("send", d.send(0, text), 1);
                d.count(3, 2 + levels);
                d.due("send", d.send(0, "SELECT k FROM t WHERE k = 2 FOR SHARE"), 1);
                d.count(3, 2 + levels);
                d.ask(0, "COMMIT", "COMMIT I");
                // All its numbers are one commit.
                d.count(4, 2);
            }
        }
    }

    // "or locks a row, also one that is its transaction's already"
    private static void numbersOfRows() {
        Desk d = desk("a row that is its own already");
        d.ask(0, "BEGIN", "BEGIN T");
        d.ask(0, "SELECT k FROM t WHERE k = 1 FOR UPDATE", "i (1) SELECT 1 T");
        d.count(3, 2);
        d.ask(0, "SAVEPOINT a", "SAVEPOINT T");
        d.ask(0, "SELECT k FROM t WHERE k = 1 FOR UPDATE", "i (1) SELECT 1 T");
        d.count(3, 3);
        d.ask(0, "ROLLBACK TO a", "ROLLBACK T");
        d.ask(0, "SELECT k FROM t WHERE k = 1 FOR SHARE", "i (1) SELECT 1 T");
        d.count(3, 4);
        d.ask(0, "RELEASE a", "RELEASE T");
        d.ask(0, "SELECT k FROM t WHERE k = 1 FOR SHARE", "i (1) SELECT 1 T");
        d.count(3, 4);
    }

    private static void noNumberWithoutNeed() {
        Desk d = desk("no number");
        d.ask(0, "UPDATE t SET v = 1 WHERE k = 7", "UPDATE 0 I");
        d.ask(0, "DELETE FROM t WHERE k = 7", "DELETE 0 I");
        d.ask(0, "INSERT INTO t SELECT k, v FROM t WHERE FALSE", "INSERT 0 I");
        d.ask(0, "SELECT k FROM t LIMIT 0 FOR UPDATE", "i SELECT 0 I");
        d.ask(0, "SELECT k FROM t", "i (1) (2) SELECT 2 I");
        d.ask(0, "INSERT INTO t VALUES (1, 1)", "23505 I");
        d.ask(0, "BEGIN", "BEGIN T");
        d.ask(0, "LOCK t ACCESS EXCLUSIVE", "LOCK T");
        d.ask(0, "COMMIT", "COMMIT I");
        d.count(3, 1);
        d.count(4, 1);
    }

    // "taken when the first query, INSERT, UPDATE or DELETE of it has its table locks"
    private static void snapshotBehindTheLocks() {
        for (String level : new String[] {"READ COMMITTED", "REPEATABLE READ", "SERIALIZABLE"}) {
            Desk d = desk("snapshot behind the locks, " + level);
            d.ask(0, "BEGIN", "BEGIN T");
            d.ask(0, "LOCK t ACCESS EXCLUSIVE", "LOCK T");
            d.ask(1, "BEGIN " + level, "BEGIN T");
            d.ask(1, "SELECT v FROM t", "waits");
            d.ask(0, "UPDATE t SET v = v + 1", "UPDATE 2 T");
            d.ask(0, "COMMIT", "COMMIT I");
            d.then(1, "i (11) (21) SELECT 2 T");
        }
    }

    // "READ COMMITTED has a snapshot for each statement, the others one for all"
    private static void snapshotOfEachStatement() {
        for (String level : new String[] {"READ COMMITTED", "REPEATABLE READ", "SERIALIZABLE"}) {
            Desk d = desk("snapshots, " + level);
            d.ask(1, "BEGIN " + level, "BEGIN T");
            d.ask(0, "UPDATE t SET v = 11 WHERE k = 1", "UPDATE 1 I");
            d.ask(1, "SAVEPOINT a", "SAVEPOINT T");
            d.ask(1, "SELECT v FROM t", "i (11) (20) SELECT 2 T");
            d.ask(0, "UPDATE t SET v = 12 WHERE k = 1", "UPDATE 1 I");
            String want = level.startsWith("READ") ? "i (12) (20) SELECT 2 T" : "i (11) (20) SELECT 2 T";
            d.ask(1, "SELECT v FROM t", want);
            // ROLLBACK TO takes no snapshot away.
            d.ask(1, "ROLLBACK TO a", "ROLLBACK T");
            d.ask(1, "SELECT v FROM t", want);
        }
    }

    // "its own (running) and the command is an earlier one"
    private static void ownCommands() {
        Desk d = desk("own commands");
        d.ask(0, "BEGIN REPEATABLE READ", "BEGIN T");
        d.ask(0, "INSERT INTO t SELECT k + 2, v FROM t", "INSERT 2 T");
        d.ask(0, "INSERT INTO t SELECT k + 4, v FROM t", "INSERT 4 T");
        d.ask(0, "UPDATE t SET k = k + 100", "UPDATE 8 T");
        d.ask(0, "DELETE FROM t WHERE k > 104", "DELETE 4 T");
        d.ask(0, "SELECT k FROM t", "i (101) (102) (103) (104) SELECT 4 T");
        d.ask(1, "SELECT k FROM t", "i (1) (2) SELECT 2 I");
        d.ask(0, "ROLLBACK", "ROLLBACK I");
        d.ask(0, "SELECT k FROM t", "i (1) (2) SELECT 2 I");
    }

    // A version in the place of one that is gone has its own command.
    private static void ownCommandsAgain() {
        Desk d = desk("own commands, again");
        d.ask(0, "BEGIN", "BEGIN T");
        for (int i = 0; i < 5; i++) {
            d.ask(0, "SELECT COUNT(*) FROM t", "i (2) SELECT 1 T");
        }
        d.ask(0, "INSERT INTO t VALUES (3, 30)", "INSERT 1 T");
        d.ask(0, "ROLLBACK", "ROLLBACK I");
        d.ask(0, "VACUUM t", "VACUUM 1 I");
        d.ask(0, "BEGIN", "BEGIN T");
        d.ask(0, "INSERT INTO t VALUES (4, 40)", "INSERT 1 T");
        d.ask(0, "SELECT k FROM t", "i (1) (2) (4) SELECT 3 T");
        d.ask(0, "DELETE FROM t WHERE k = 4", "DELETE 1 T");
        d.ask(0, "SELECT k FROM t", "i (1) (2) SELECT 2 T");
    }

    // "(that level stays, empty; their table locks go)"
    private static void rollbackToKeepsItsLevel() {
        Desk d = desk("ROLLBACK TO keeps its level");
        d.ask(0, "BEGIN", "BEGIN T");
        d.ask(0, "SAVEPOINT a", "SAVEPOINT T");
        d.ask(0, "SAVEPOINT b", "SAVEPOINT T");
        d.ask(0, "LOCK t EXCLUSIVE", "LOCK T");
        d.ask(1, "INSERT INTO t VALUES (5, 5)", "waits");
        d.ask(0, "ROLLBACK TO a", "ROLLBACK T");
        d.then(1, "INSERT 1 I");
        d.ask(0, "ROLLBACK TO a", "ROLLBACK T");
        d.ask(0, "ROLLBACK TO b", "3B001 F");
        d.ask(0, "ROLLBACK TO a", "ROLLBACK T");
        d.ask(0, "RELEASE a", "RELEASE T");
        d.ask(0, "ROLLBACK TO a", "3B001 F");
    }

    // "RELEASE gives them, and these levels' table locks, to the level before"
    private static void releaseGivesToTheLevelBefore() {
        Desk d = desk("RELEASE");
        d.ask(0, "BEGIN", "BEGIN T");
        d.ask(0, "SAVEPOINT a", "SAVEPOINT T");
        d.ask(0, "SAVEPOINT b", "SAVEPOINT T");
        d.ask(0, "SAVEPOINT c", "SAVEPOINT T");
        d.ask(0, "UPDATE t SET v = 0 WHERE k = 1", "UPDATE 1 T");
        d.ask(0, "LOCK t SHARE", "LOCK T");
        d.ask(0, "RELEASE b", "RELEASE T");
        d.ask(1, "UPDATE t SET v = v + 1 WHERE k = 1", "waits");
        d.ask(0, "SAVEPOINT d", "SAVEPOINT T");
        d.ask(0, "ROLLBACK TO d", "ROLLBACK T");
        d.state(1, 5);
        d.ask(0, "SELECT v FROM t WHERE k = 1", "i (0) SELECT 1 T");
        // They are of level a now.
        d.ask(0, "ROLLBACK TO a", "ROLLBACK T");
        d.then(1, "UPDATE 1 I");
        d.ask(0, "SELECT v FROM t WHERE k = 1", "i (11) SELECT 1 T");
    }

    // "in ORDER by their values, column by column, NULL behind all others, like ones by their numbers"
    private static void orderOfVersions() {
        Desk d = Desk.with("the order of versions", 1);
        d.ask(0, "CREATE TABLE o (a INT, b TEXT, c BOOL)", "CREATE I");
        d.ask(0, "INSERT INTO o VALUES (NULL,NULL,NULL),(1,NULL,TRUE),(1,'b',TRUE),(1,'b',FALSE),(1,'b',NULL),(1,'',NULL),"
            + "(-1,'z',TRUE),(NULL,'a',TRUE)", "INSERT 8 I");
        d.ask(0, "SELECT * FROM o", "itb (-1,z,t) (1,,~) (1,b,f) (1,b,t) (1,b,~) (1,~,t) (~,a,t) (~,~,~) SELECT 8 I");
        // Of like ones the one with the least number is first: it is what LIMIT 1 locks.
        d.x.open(1);
        d.ask(0, "CREATE TABLE l (a INT)", "CREATE I");
        d.ask(0, "INSERT INTO l VALUES (1)", "INSERT 1 I");
        d.ask(0, "INSERT INTO l VALUES (1)", "INSERT 1 I");
        d.ask(1, "BEGIN", "BEGIN T");
        d.ask(1, "DELETE FROM l WHERE a = 1", "DELETE 2 T");
        d.ask(1, "ROLLBACK", "ROLLBACK I");
        d.ask(0, "BEGIN", "BEGIN T");
        d.ask(0, "SELECT a FROM l LIMIT 1 FOR UPDATE", "i (1) SELECT 1 T");
        d.ask(1, "SELECT a FROM l LIMIT 1 FOR UPDATE", "waits");
        d.ask(0, "COMMIT", "COMMIT I");
        d.then(1, "i (1) SELECT 1 I");
    }

    // "with aggregates and no GROUP BY all make one ... NULL if there is none"
    private static void emptyTables() {
        Desk d = Desk.with("empty tables", 1);
        d.ask(0, "CREATE TABLE e (k INT, s TEXT)", "CREATE I");
        d.ask(0, "CREATE TABLE f (k INT)", "CREATE I");
        d.ask(0, "INSERT INTO f VALUES (1)", "INSERT 1 I");
        d.ask(0, "SELECT * FROM e", "it SELECT 0 I");
        d.ask(0, "SELECT COUNT(*), COUNT(k), SUM(k), MIN(k), MAX(s), 7 FROM e", "iiiiti (0,0,~,~,~,7) SELECT 1 I");
        d.ask(0, "SELECT COUNT(*) + 1, SUM(k) IS NULL FROM e", "ib (1,t) SELECT 1 I");
        d.ask(0, "SELECT COUNT(*), SUM(k), 7 FROM e GROUP BY k", "iii SELECT 0 I");
        d.ask(0, "SELECT 7 FROM e GROUP BY k", "i SELECT 0 I");
        d.ask(0, "SELECT e.k, f.k FROM e, f", "ii SELECT 0 I");
        d.ask(0, "SELECT COUNT(*) FROM f, e", "i (0) SELECT 1 I");
        d.ask(0, "SELECT DISTINCT COUNT(*) FROM e ORDER BY 1 DESC LIMIT 1", "i (0) SELECT 1 I");
        d.ask(0, "SELECT COUNT(*) FROM e LIMIT 0", "i SELECT 0 I");
        d.ask(0, "UPDATE e SET k = 1", "UPDATE 0 I");
        d.ask(0, "DELETE FROM e", "DELETE 0 I");
        d.ask(0, "INSERT INTO e SELECT k, s FROM e", "INSERT 0 I");
        d.ask(0, "SELECT k FROM e FOR UPDATE", "i SELECT 0 I");
        d.ask(0, "VACUUM e", "VACUUM 0 I");
        d.ask(0, "SELECT MIN(k), MAX(k), SUM(k), COUNT(k) FROM f WHERE k IS NULL", "iiii (~,~,~,0) SELECT 1 I");
        d.ask(0, "INSERT INTO e VALUES (NULL, NULL), (NULL, NULL)", "INSERT 2 I");
        d.ask(0, "SELECT COUNT(*), COUNT(k), SUM(k), MIN(k), MAX(s) FROM e", "iiiit (2,0,~,~,~) SELECT 1 I");
        d.ask(0, "SELECT k, COUNT(*) FROM e GROUP BY k", "ii (~,2) SELECT 1 I");
    }

    // "54001 if the product of the numbers of seen versions in the ranges of its tables' paths ... is more than 40000"
    private static void fortyThousand() {
        Desk d = Desk.with("40000 combinations", 1);
        d.ask(0, "CREATE TABLE n (k INT UNIQUE)", "CREATE I");
        fill(d, "n", 201);
        d.ask(0, "SELECT 1 FROM n a, n b WHERE a.k < 200 AND b.k < 200 AND a.k = b.k - 199", "i (1) SELECT 1 I");
        d.ask(0, "SELECT 1 FROM n a, n b WHERE a.k < 200 AND b.k < 201 AND a.k = b.k - 199", "54001 I");
        // 40001 = 13 * 17 * 181, 40000 = 16 * 50 * 50, 39999 = 3 * 67 * 199.
        d.ask(0, "SELECT 1 FROM n a, n b, n c WHERE a.k < 13 AND b.k < 17 AND c.k < 181 AND FALSE", "54001 I");
        d.ask(0, "SELECT 1 FROM n a, n b, n c WHERE a.k < 16 AND b.k < 50 AND c.k < 50 AND FALSE", "i SELECT 0 I");
        d.ask(0, "SELECT 1 FROM n a, n b, n c WHERE a.k < 3 AND b.k < 67 AND c.k < 199 AND FALSE", "i SELECT 0 I");
        d.ask(0, "SELECT COUNT(*) FROM n a, n b, n c WHERE a.k < 13 AND b.k < 17 AND c.k < 181 AND FALSE LIMIT 0", "54001 I");
        // Of three whole tables: more than an INT of 32 bits would hold is not needed, but a product of 8 million is.
        d.ask(0, "SELECT 1 FROM n a, n b, n c WHERE FALSE", "54001 I");
        d.ask(0, "INSERT INTO n SELECT a.k FROM n a, n b, n c WHERE FALSE", "54001 I");
        d.ask(0, "BEGIN", "BEGIN T");
        d.ask(0, "SELECT 1 FROM n a, n b, n c WHERE FALSE", "54001 F");
        d.ask(0, "ROLLBACK", "ROLLBACK I");
        // Seen versions alone count.
        d.ask(0, "DELETE FROM n WHERE k >= 200", "DELETE 1 I");
        d.ask(0, "SELECT COUNT(*) FROM n a, n b WHERE a.k = 5", "i (200) SELECT 1 I");
        d.ask(0, "SELECT COUNT(*) FROM n a, n b WHERE a.k = b.k", "i (200) SELECT 1 I");
    }

    // "(see SERIALIZABLE; 0 counts as 1)"
    private static void nothingCountsAsOne() {
        Desk d = Desk.with("0 counts as 1", 1);
        d.ask(0, "CREATE TABLE n (k INT UNIQUE)", "CREATE I");
        d.ask(0, "CREATE TABLE e (k INT)", "CREATE I");
        fill(d, "n", 201);
        d.ask(0, "SELECT 1 FROM e, n a, n b", "54001 I");
        d.ask(0, "SELECT 1 FROM e, n a, n b WHERE a.k < 200 AND b.k < 200", "i SELECT 0 I");
        d.ask(0, "SELECT 1 FROM n a, e, n b WHERE a.k < 200 AND b.k < 201", "54001 I");
        d.ask(0, "SELECT 1 FROM e a, e b, e c", "i SELECT 0 I");
        d.ask(0, "SELECT COUNT(*) FROM n a, n b, n c WHERE a.k = NULL AND b.k = NULL", "i (0) SELECT 1 I");
        d.ask(0, "SELECT COUNT(*) FROM n a, n b, n c WHERE a.k = NULL AND b.k = 5000", "i (0) SELECT 1 I");
    }

    // The range alone counts, as its bounds say: with or without them.
    private static void rangesCount() {
        Desk d = Desk.with("ranges count", 1);
        d.ask(0, "CREATE TABLE n (k INT UNIQUE)", "CREATE I");
        fill(d, "n", 200);
        // The other table's 200: 200 versions in the range are taken, 201 would not be.
        d.ask(0, "INSERT INTO n VALUES (1000), (1001)", "INSERT 2 I");
        String[] taken = {"a.k < 200", "a.k <= 199", "200 > a.k", "199 >= a.k", "a.k >= 2", "a.k > 1", "2 <= a.k", "1 < a.k",
            "a.k BETWEEN 1 AND 200", "a.k > -1 AND a.k < 200", "a.k >= 0 AND a.k < 500 AND a.k < 200 AND a.k <= 200",
            "a.k = 7", "a.k IN (7)"};
        for (String text : taken) {
            d.ask(0, "SELECT 1 FROM n a, n b WHERE b.k < 200 AND FALSE AND " + text, "i SELECT 0 I");
        }
        String[] many = {"a.k <= 1000", "a.k < 1001", "1000 >= a.k", "a.k >= 1", "a.k > 0", "a.k BETWEEN 0 AND 1000",
            "a.k NOT BETWEEN 5 AND 6", "a.k <> 5", "a.k IN (1, 2)", "NOT a.k = 5", "(a.k = 5 OR a.k = 6)", "a.k = b.k",
            "a.k + 0 = 5", "a.k IS NULL", "-a.k = -5"};
        for (String text : many) {
            d.ask(0, "SELECT 1 FROM n a, n b WHERE b.k < 200 AND FALSE AND " + text, "54001 I");
        }
    }

    // "or more than 2000 combinations for which WHERE is t come (LIMIT or not)"
    private static void twoThousandRows() {
        Desk d = Desk.with("2000 rows", 1);
        d.ask(0, "CREATE TABLE n (k INT UNIQUE)", "CREATE I");
        fill(d, "n", 200);
        d.ask(0, "SELECT COUNT(*) FROM n a, n b WHERE a.k < 10", "i (2000) SELECT 1 I");
        d.ask(0, "SELECT COUNT(*) FROM n a, n b WHERE a.k < 10 OR a.k = 10 AND b.k = 0", "54001 I");
        d.ask(0, "SELECT 1 FROM n a, n b WHERE a.k < 10 OR a.k = 10 AND b.k = 0 LIMIT 1", "54001 I");
        d.ask(0, "SELECT 1 FROM n a, n b WHERE a.k < 10 LIMIT 1", "i (1) SELECT 1 I");
        d.ask(0, "SELECT DISTINCT 1 FROM n a, n b WHERE a.k < 10", "i (1) SELECT 1 I");
        d.ask(0, "SELECT DISTINCT 1 FROM n a, n b WHERE a.k < 10 OR a.k = 10 AND b.k = 0", "54001 I");
        d.ask(0, "SELECT a.k, COUNT(*) FROM n a, n b WHERE a.k < 10 OR a.k = 10 AND b.k = 0 GROUP BY a.k", "54001 I");
        d.ask(0, "SELECT COUNT(*) FROM n a, n b WHERE a.k < 10 GROUP BY b.k LIMIT 2", "i (10) (10) SELECT 2 I");
        // NULL and f are not t.
        d.ask(0, "SELECT COUNT(*) FROM n a, n b WHERE a.k < 10 OR a.k = 10 AND b.k = 0 AND NULL", "i (2000) SELECT 1 I");
        d.ask(0, "SELECT COUNT(*) FROM n a, n b WHERE a.k / (b.k - b.k) = 0", "i (0) SELECT 1 I");
        d.ask(0, "SELECT SUM(a.k + b.k), MAX(b.k) FROM n a, n b WHERE a.k < 10", "ii (208000,199) SELECT 1 I");
        d.ask(0, "SELECT b.k FROM n a, n b WHERE a.k < 10 ORDER BY 1 DESC LIMIT 3", "i (199) (199) (199) SELECT 3 I");
    }

    // "LIMIT: the first so many."
    private static void limits() {
        Desk d = desk("LIMIT");
        d.ask(0, "SELECT k FROM t LIMIT 0", "i SELECT 0 I");
        d.ask(0, "SELECT k FROM t LIMIT 1", "i (1) SELECT 1 I");
        d.ask(0, "SELECT k FROM t LIMIT 2", "i (1) (2) SELECT 2 I");
        d.ask(0, "SELECT k FROM t LIMIT 3", "i (1) (2) SELECT 2 I");
        d.ask(0, "SELECT k FROM t LIMIT 4294967296", "i (1) (2) SELECT 2 I");
        d.ask(0, "SELECT k FROM t LIMIT 4294967297", "i (1) (2) SELECT 2 I");
        d.ask(0, "SELECT k FROM t LIMIT 999999999999999999", "i (1) (2) SELECT 2 I");
        d.ask(0, "INSERT INTO t SELECT k + 5, v FROM t LIMIT 1", "INSERT 1 I");
        d.ask(0, "SELECT k FROM t ORDER BY 1 DESC LIMIT 1", "i (6) SELECT 1 I");
        d.ask(0, "SELECT v, COUNT(*) FROM t GROUP BY v LIMIT 1", "ii (10,2) SELECT 1 I");
    }

    // "ORDER BY: ... NULL behind all (with DESC all the other way round), otherwise the order stays"
    private static void orderByTies() {
        Desk d = Desk.with("ORDER BY", 1);
        d.ask(0, "CREATE TABLE o (a INT, b INT)", "CREATE I");
        d.ask(0, "INSERT INTO o VALUES (1,2),(2,NULL),(3,1),(4,2),(5,NULL),(6,1),(NULL,0)", "INSERT 7 I");
        d.ask(0, "SELECT a, b FROM o ORDER BY 2", "ii (~,0) (3,1) (6,1) (1,2) (4,2) (2,~) (5,~) SELECT 7 I");
        d.ask(0, "SELECT a, b FROM o ORDER BY 2 DESC", "ii (2,~) (5,~) (1,2) (4,2) (3,1) (6,1) (~,0) SELECT 7 I");
        d.ask(0, "SELECT a, b FROM o ORDER BY 2, 1 DESC", "ii (~,0) (6,1) (3,1) (4,2) (1,2) (5,~) (2,~) SELECT 7 I");
        d.ask(0, "SELECT a FROM o ORDER BY 1 DESC", "i (~) (6) (5) (4) (3) (2) (1) SELECT 7 I");
        d.ask(0, "SELECT DISTINCT b FROM o ORDER BY 1", "i (0) (1) (2) (~) SELECT 4 I");
        d.ask(0, "SELECT DISTINCT b FROM o", "i (2) (~) (1) (0) SELECT 4 I");
    }

    // "DISTINCT: a row like an earlier one goes.": NULL is like NULL, whatever it was made of.
    private static void distinctNulls() {
        Desk d = Desk.with("DISTINCT of NULLs", 1);
        d.ask(0, "CREATE TABLE o (a INT, s TEXT)", "CREATE I");
        d.ask(0, "INSERT INTO o VALUES (1,'a'),(2,'12345678abc'),(3,'1234567890123456789012345678901'),(NULL,NULL),(0,'')",
            "INSERT 5 I");
        d.ask(0, "SELECT DISTINCT a / 0, s || NULL, a = NULL, -(a % 0) FROM o", "itbi (~,~,~,~) SELECT 1 I");
        d.ask(0, "SELECT DISTINCT s || NULL FROM o", "t (~) SELECT 1 I");
        d.ask(0, "SELECT DISTINCT NOT (s > NULL), (s > NULL) AND TRUE FROM o", "bb (~,~) SELECT 1 I");
        d.ask(0, "SELECT DISTINCT NULL FROM o", "t (~) SELECT 1 I");
        d.ask(0, "SELECT DISTINCT MIN(a / 0), MAX(s || NULL), SUM(a % 0) FROM o GROUP BY a", "iti (~,~,~) SELECT 1 I");
        d.ask(0, "SELECT DISTINCT a, s FROM o WHERE a < 2", "it (0,) (1,a) SELECT 2 I");
    }

    // "(its targets are the rows behind ORDER BY and LIMIT; what is left out is not made up for)"
    private static void leftOut() {
        Desk d = desk("left out");
        d.ask(0, "BEGIN", "BEGIN T");
        d.ask(0, "DELETE FROM t WHERE k = 2", "DELETE 1 T");
        d.ask(1, "SELECT k FROM t ORDER BY 1 DESC LIMIT 1 FOR UPDATE", "waits");
        d.ask(2, "SELECT k FROM t LIMIT 1 FOR UPDATE", "i (1) SELECT 1 I");
        d.ask(0, "COMMIT", "COMMIT I");
        d.then(1, "i SELECT 0 I");
        // Its own end: left out; in a query it is not seen at all.
        d.ask(0, "BEGIN", "BEGIN T");
        d.ask(0, "UPDATE t SET v = v + 1 WHERE k = 1", "UPDATE 1 T");
        d.ask(0, "UPDATE t SET v = v + 1 WHERE k = 1", "UPDATE 1 T");
        d.ask(0, "SELECT v FROM t", "i (12) SELECT 1 T");
        d.ask(0, "COMMIT", "COMMIT I");
    }

    // "NOT NULL: 23502."
    private static void notNull() {
        Desk d = Desk.with("NOT NULL", 1);
        d.ask(0, "CREATE TABLE o (a INT NOT NULL, b TEXT, c BOOL NOT NULL UNIQUE)", "CREATE I");
        d.ask(0, "INSERT INTO o VALUES (0, '', FALSE)", "INSERT 1 I");
        d.ask(0, "INSERT INTO o VALUES (NULL, '', TRUE)", "23502 I");
        d.ask(0, "INSERT INTO o VALUES (0, NULL, NULL)", "23502 I");
        d.ask(0, "INSERT INTO o VALUES (NULL, '', FALSE)", "23502 I");
        d.ask(0, "INSERT INTO o VALUES (1 / 0, '', TRUE)", "23502 I");
        d.ask(0, "INSERT INTO o VALUES (0, NULL, TRUE)", "INSERT 1 I");
        d.ask(0, "UPDATE o SET a = NULL", "23502 I");
        d.ask(0, "UPDATE o SET a = NULL WHERE FALSE", "UPDATE 0 I");
        d.ask(0, "UPDATE o SET b = NULL", "UPDATE 2 I");
        // The first row is made, and undone with the second.
        d.ask(0, "DELETE FROM o", "DELETE 2 I");
        d.ask(0, "INSERT INTO o VALUES (1, '', TRUE), (NULL, '', FALSE)", "23502 I");
        d.ask(0, "SELECT COUNT(*) FROM o", "i (0) SELECT 1 I");
    }

    // "UNIQUE, for a value not NULL"
    private static void uniqueOfNull() {
        Desk d = Desk.with("UNIQUE of NULL", 1);
        d.ask(0, "CREATE TABLE o (a INT UNIQUE, b TEXT UNIQUE, c BOOL UNIQUE)", "CREATE I");
        d.ask(0, "INSERT INTO o VALUES (NULL, NULL, NULL), (NULL, NULL, NULL)", "INSERT 2 I");
        d.ask(0, "INSERT INTO o VALUES (0, '', FALSE), (NULL, NULL, TRUE)", "INSERT 2 I");
        d.ask(0, "INSERT INTO o VALUES (0, NULL, NULL)", "23505 I");
        d.ask(0, "INSERT INTO o VALUES (NULL, '', NULL)", "23505 I");
        d.ask(0, "INSERT INTO o VALUES (NULL, NULL, TRUE)", "23505 I");
        d.ask(0, "INSERT INTO o VALUES (NULL, NULL, NULL)", "INSERT 1 I");
        d.ask(0, "UPDATE o SET a = 1 WHERE a IS NULL AND c IS NULL", "23505 I");
        d.ask(0, "UPDATE o SET a = NULL", "UPDATE 5 I");
        // Itself is not another version.
        d.ask(0, "UPDATE o SET c = c", "UPDATE 5 I");
    }

    // "CREATE UNIQUE INDEX: 23505 (behind 54023) if two versions whose maker is committed, with no end or an aborted one"
    private static void uniqueIndexOverVersions() {
        Desk d = Desk.with("CREATE UNIQUE INDEX", 2);
        d.ask(0, "CREATE TABLE o (a INT)", "CREATE I");
        d.ask(0, "CREATE UNIQUE INDEX ON o (a)", "CREATE I");
        d.ask(0, "DROP TABLE o", "DROP I");
        d.ask(0, "CREATE TABLE o (a INT)", "CREATE I");
        d.ask(0, "INSERT INTO o VALUES (1), (NULL), (NULL)", "INSERT 3 I");
        d.ask(0, "UPDATE o SET a = a WHERE a = 1", "UPDATE 1 I");
        d.ask(0, "BEGIN", "BEGIN T");
        d.ask(0, "INSERT INTO o VALUES (1)", "INSERT 1 T");
        d.ask(0, "ROLLBACK", "ROLLBACK I");
        d.ask(0, "CREATE UNIQUE INDEX ON o (a)", "CREATE I");
        d.ask(0, "CREATE TABLE p (a INT)", "CREATE I");
        d.ask(0, "INSERT INTO p VALUES (1), (1)", "INSERT 2 I");
        d.ask(0, "CREATE UNIQUE INDEX ON p (a)", "23505 I");
        d.ask(0, "CREATE INDEX ON p (a)", "CREATE I");
        // An aborted end is none: it is there still.
        d.ask(0, "BEGIN", "BEGIN T");
        d.ask(0, "DELETE FROM p", "DELETE 2 T");
        d.ask(0, "ROLLBACK", "ROLLBACK I");
        d.ask(0, "CREATE UNIQUE INDEX ON p (a)", "23505 I");
        for (int i = 2; i < 8; i++) {
            d.ask(0, "CREATE INDEX ON p (a)", "CREATE I");
        }
        d.count(6, 8);
        d.ask(0, "CREATE UNIQUE INDEX ON p (a)", "54023 I");
    }

    // "of the versions with that value (but v), by their numbers"
    private static void uniqueByNumbers() {
        // The version with the lower number is session 0's, that of the higher one committed: it waits first.
        Desk d = desk("by their numbers");
        d.ask(0, "BEGIN", "BEGIN T");
        d.ask(0, "DELETE FROM t WHERE k = 1", "DELETE 1 T");
        d.ask(0, "INSERT INTO t VALUES (1, 11)", "INSERT 1 T");
        d.ask(1, "INSERT INTO t VALUES (1, 12)", "waits");
        d.ask(0, "ROLLBACK", "ROLLBACK I");
        d.then(1, "23505 I");
        d = desk("by their numbers, REPEATABLE READ");
        d.ask(1, "BEGIN REPEATABLE READ", "BEGIN T");
        d.ask(1, "SELECT COUNT(*) FROM t", "i (2) SELECT 1 T");
        d.ask(0, "UPDATE t SET k = 3 WHERE k = 1", "UPDATE 1 I");
        // 1 was ended by one that is committed and not seen, 3 made by it.
        d.ask(1, "SAVEPOINT a", "SAVEPOINT T");
        d.ask(1, "INSERT INTO t VALUES (1, 0)", "40001 F");
        d.ask(1, "ROLLBACK TO a", "ROLLBACK T");
        d.ask(1, "INSERT INTO t VALUES (3, 0)", "40001 F");
        d.ask(1, "ROLLBACK TO a", "ROLLBACK T");
        d.ask(1, "INSERT INTO t VALUES (2, 0)", "23505 F");
        d.ask(1, "ROLLBACK TO a", "ROLLBACK T");
        d.ask(1, "INSERT INTO t VALUES (4, 0)", "INSERT 1 T");
        // The lower number is ended by a committed one that is not seen, the higher one made by a running one: in either
        // order of their values the lower number is looked at first.
        for (int v = 5; v <= 15; v += 10) {
            d = desk("by their numbers, whatever their values: " + v);
            d.ask(1, "BEGIN REPEATABLE READ", "BEGIN T");
            d.ask(1, "SELECT COUNT(*) FROM t", "i (2) SELECT 1 T");
            d.ask(0, "DELETE FROM t WHERE k = 1", "DELETE 1 I");
            d.ask(2, "BEGIN", "BEGIN T");
            d.ask(2, "INSERT INTO t VALUES (1, " + v + ")", "INSERT 1 T");
            d.ask(1, "INSERT INTO t VALUES (1, 0)", "40001 F");
        }
        // And the other way round: it waits for the lower number's end, though the higher one is there to stay.
        for (int v = 5; v <= 15; v += 10) {
            d = desk("by their numbers, waiting first: " + v);
            d.ask(0, "BEGIN", "BEGIN T");
            d.ask(0, "DELETE FROM t WHERE k = 1", "DELETE 1 T");
            d.ask(0, "INSERT INTO t VALUES (1, " + v + ")", "INSERT 1 T");
            d.ask(1, "INSERT INTO t VALUES (1, 0)", "waits");
            d.ask(0, "COMMIT", "COMMIT I");
            d.then(1, "23505 I");
        }
    }

    // "if a version came in its place, that is v from now on", wherever it is held.
    private static void inThePlaceOfAnother() {
        Desk d = desk("in the place of a vacuumed one");
        d.ask(0, "DELETE FROM t WHERE k = 1", "DELETE 1 I");
        d.ask(0, "VACUUM t", "VACUUM 1 I");
        d.ask(0, "BEGIN", "BEGIN T");
        d.ask(0, "UPDATE t SET v = 21 WHERE k = 2", "UPDATE 1 T");
        d.ask(1, "UPDATE t SET v = v + 1 WHERE k = 2", "waits");
        d.ask(0, "COMMIT", "COMMIT I");
        d.then(1, "UPDATE 1 I");
        d.ask(0, "SELECT v FROM t", "i (22) SELECT 1 I");
    }

    // "all of the level on top is undone as by ROLLBACK TO (...; level 0: as ROLLBACK: locks, snapshot and reads are gone)"
    private static void errorsOfLevels() {
        Desk d = desk("errors of levels");
        d.ask(0, "BEGIN REPEATABLE READ", "BEGIN T");
        d.ask(0, "UPDATE t SET v = 0 WHERE k = 1", "UPDATE 1 T");
        d.ask(0, "SAVEPOINT a", "SAVEPOINT T");
        d.ask(0, "UPDATE t SET v = 0 WHERE k = 2", "UPDATE 1 T");
        d.ask(0, "LOCK t SHARE", "LOCK T");
        d.ask(1, "UPDATE t SET v = 7 WHERE k = 2", "waits");
        d.ask(0, "ROLLBACK TO nosuch", "3B001 F");
        d.then(1, "UPDATE 1 I");
        d.ask(1, "UPDATE t SET v = 8 WHERE k = 1", "waits");
        // An error behind it undoes nothing more.
        d.ask(0, "NONSENSE", "42601 F");
        d.ask(0, "SELECT k FROM t", "25P02 F");
        d.state(1, 5);
        d.ask(0, "ROLLBACK TO a", "ROLLBACK T");
        d.ask(0, "SELECT v FROM t", "i (0) (20) SELECT 2 T");
        d.ask(0, "RELEASE a", "RELEASE T");
        d.ask(0, "NONSENSE", "42601 F");
        d.then(1, "UPDATE 1 I");
        d.ask(0, "ROLLBACK TO a", "3B001 F");
        d.ask(0, "COMMIT", "COMMIT I");
        d.ask(0, "SELECT v FROM t", "i (8) (7) SELECT 2 I");
    }
}
