/** Promise 5: tokens, statements, the limits of reading, and the order of these errors. */
public final class SyntaxTest {
    public static void main(String[] args) {
        tokens();
        statements();
        depth();
        nodes();
        limits();
        when();
        Desk.end("SyntaxTest");
    }

    private static Desk desk(String name) {
        Desk d = Desk.with(name, 1);
        d.ask(0, "CREATE TABLE t (k INT UNIQUE, v INT, s TEXT, b BOOL)", "CREATE I");
        d.ask(0, "INSERT INTO t VALUES (1, 10, 'a', TRUE), (2, 20, 'b', FALSE), (3, NULL, NULL, NULL)", "INSERT 3 I");
        return d;
    }

    private static String repeat(String text, int n) {
        StringBuilder all = new StringBuilder();
        for (int i = 0; i < n; i++) {
            all.append(text);
        }
        return all.toString();
    }

    private static void tokens() {
        Desk d = desk("tokens");
        d.ask(0, "SELECTk,vFROMtWHEREk=1", "ii (1,10) SELECT 1 I");
        d.ask(0, "SELECTFROM t", "42601 I");
        d.ask(0, "SELECT k,v FROM t WHERE k=1AND v=10", "ii (1,10) SELECT 1 I");
        d.ask(0, "SELECT 12FROM t LIMIT 1", "i (12) SELECT 1 I");
        d.ask(0, "  SELECT  k  FROM  t  LIMIT  1  ;  ", "i (1) SELECT 1 I");
        d.ask(0, "SELECT k FROM t LIMIT 1;;", "42601 I");
        d.ask(0, ";", "42601 I");
        d.ask(0, "   ", "42601 I");
        d.ask(0, "SELECT k FROM t\t", "42601 I");
        d.ask(0, "SELECT k FROM t\u0000", "42601 I");
        d.ask(0, "select k FROM t", "42601 I");
        d.ask(0, "SELECT k FROM t WHERE k < > 1", "42601 I");
        d.ask(0, "SELECT k FROM t WHERE k<>1AND k<=2AND k>=2", "i (2) SELECT 1 I");
        d.ask(0, "SELECT s|s FROM t", "42601 I");
        d.ask(0, "SELECT 'it''s' FROM t LIMIT 1", "t (it's) SELECT 1 I");
        d.ask(0, "SELECT '' FROM t LIMIT 1", "t () SELECT 1 I");
        d.ask(0, "SELECT '''' FROM t LIMIT 1", "t (') SELECT 1 I");
        d.ask(0, "SELECT 'it FROM t", "42601 I");
        d.ask(0, "SELECT 'a\u007f' FROM t", "42601 I");
        d.ask(0, "SELECT '" + repeat("x", 31) + "' FROM t LIMIT 1", "t (" + repeat("x", 31) + ") SELECT 1 I");
        d.ask(0, "SELECT '" + repeat("x", 32) + "' FROM t LIMIT 1", "42601 I");
        d.ask(0, "SELECT '" + repeat("''", 31) + "' FROM t LIMIT 1", "t (" + repeat("'", 31) + ") SELECT 1 I");
        d.ask(0, "SELECT " + repeat("9", 18) + " FROM t LIMIT 1", "i (" + repeat("9", 18) + ") SELECT 1 I");
        d.ask(0, "SELECT " + repeat("9", 19) + " FROM t LIMIT 1", "42601 I");
        d.ask(0, "SELECT k FROM t " + repeat("a", 16) + " LIMIT 1", "i (1) SELECT 1 I");
        d.ask(0, "SELECT k FROM t " + repeat("a", 17) + " LIMIT 1", "42601 I");
        d.ask(0, "SELECT k FROM t a_1 LIMIT 1", "i (1) SELECT 1 I");
        d.ask(0, "SELECT k FROM t _a LIMIT 1", "42601 I");
        d.ask(0, "SELECT $0 FROM t", "42601 I");
        d.ask(0, "PREPARE p AS SELECT $12 FROM t", "42601 I");
        d.ask(0, "SELECT WORD FROM t", "42601 I");
    }

    private static void statements() {
        Desk d = desk("statements");
        String[] wrong = {
            "CREATE", "CREATE TABLE u", "CREATE TABLE u ()", "CREATE TABLE u (a)", "CREATE TABLE u (a INT,)",
            "CREATE TABLE u (a INT UNIQUE NOT NULL)", "CREATE TABLE u (a INT NOT)", "CREATE TABLE u (a INT",
            "CREATE UNIQUE TABLE u (a INT)", "CREATE INDEX t (k)", "CREATE INDEX ON t k", "CREATE INDEX ON t (k, v)",
            "DROP t", "DROP TABLE", "INSERT t VALUES (1)", "INSERT INTO t (1)", "INSERT INTO t VALUES ()",
            "INSERT INTO t VALUES (1),", "INSERT INTO t VALUES 1", "UPDATE t", "UPDATE t SET", "UPDATE t SET k",
            "UPDATE t SET k = 1,", "UPDATE t SET t.k = 1", "UPDATE t SET k = 1 WHERE", "DELETE t", "DELETE FROM t k",
            "SELECT FROM t", "SELECT k", "SELECT *, k FROM t", "SELECT k, * FROM t", "SELECT k, FROM t",
            "SELECT k FROM t,", "SELECT k FROM t WHERE", "SELECT k FROM t GROUP k", "SELECT k FROM t GROUP BY 1",
            "SELECT k FROM t GROUP BY k + 1", "SELECT k FROM t ORDER BY k", "SELECT k FROM t ORDER 1",
            "SELECT k FROM t LIMIT k", "SELECT k FROM t LIMIT -1", "SELECT k FROM t LIMIT", "SELECT k FROM t FOR",
            "SELECT k FROM t FOR UPDATE LIMIT 1", "SELECT k FROM t ORDER BY 1 WHERE TRUE", "BEGIN READ",
            "BEGIN REPEATABLE", "BEGIN COMMITTED", "BEGIN SERIALIZABLE READ", "SAVEPOINT", "ROLLBACK TO", "RELEASE",
            "LOCK t", "LOCK t ROW", "LOCK t SHARE UPDATE", "LOCK t SHARE ROW", "LOCK t ACCESS", "LOCK t UPDATE",
            "PREPARE p SELECT k FROM t", "PREPARE AS SELECT k FROM t", "PREPARE p AS COMMIT",
            "PREPARE p AS PREPARE q AS SELECT k FROM t", "PREPARE p AS EXECUTE q", "PREPARE p AS", "EXECUTE",
            "EXECUTE p ()", "EXECUTE p (1", "VACUUM", "CHECKPOINT t", "COMMIT t", "TABLE t", "t", "1", "'a'", "(k)",
            "SELECT k = v = k FROM t", "SELECT NOT FROM t", "SELECT k + NOT b FROM t", "SELECT k = NOT b FROM t",
            "SELECT - NOT b FROM t", "SELECT k IS 1 FROM t", "SELECT k IS NULL IS NULL FROM t",
            "SELECT k NOT FROM t", "SELECT k NOT = 1 FROM t", "SELECT k BETWEEN 1 FROM t", "SELECT k IN () FROM t",
            "SELECT k IN 1 FROM t", "SELECT k BETWEEN 1 AND 2 = b FROM t", "SELECT k + FROM t", "SELECT () FROM t",
            "SELECT t. FROM t", "SELECT t.k.v FROM t", "SELECT COUNT() FROM t", "SELECT SUM(*) FROM t",
            "SELECT COUNT * FROM t", "SELECT k FROM t WHERE COUNT(*) = 1", "UPDATE t SET k = MAX(k)",
            "INSERT INTO t VALUES (COUNT(*))", "EXECUTE p (SUM(1))", "DELETE FROM t WHERE MIN(k) = 1",
            "SELECT k FROM t GROUP BY COUNT(*)", "SELECT k AND BETWEEN 1 AND 2 FROM t",
        };
        for (int i = 0; i < wrong.length; i++) {
            d = i % 40 == 0 ? desk("statements") : d;
            d.ask(0, wrong[i], "42601 I");
        }
        d = desk("statements");
        d.ask(0, "SELECT NOT b AND b OR NOT k = 1 FROM t ORDER BY 1", "b (f) (t) (t) SELECT 3 I");
        d.ask(0, "SELECT 1 + 2 * 3 - 4 / 2 % 2, - 2 * - - 3, 'a' || 'b' || 1 || 2 FROM t", "42804 I");
        d.ask(0, "SELECT 1 + 2 * 3 - 4 / 2 % 2, - 2 * - - 3, 10 - 3 - 2 FROM t LIMIT 1", "iii (7,-6,5) SELECT 1 I");
        d.ask(0, "SELECT 'a' || 'b' = 'ab', 1 + 1 BETWEEN 1 + 0 AND 2 * 1 AND TRUE FROM t LIMIT 1",
            "bb (t,t) SELECT 1 I");
        d.ask(0, "SELECT NOT 1 = 2, NOT NOT TRUE, 2 NOT IN (1, 3), 2 NOT BETWEEN 1 AND 3 FROM t LIMIT 1",
            "bbbb (t,t,t,f) SELECT 1 I");
        d.ask(0, "SELECT t . k FROM t LIMIT 1", "i (1) SELECT 1 I");
        d.ask(0, "BEGIN", "BEGIN T");
        String[] modes = {"ACCESS SHARE", "ROW SHARE", "ROW EXCLUSIVE", "SHARE UPDATE EXCLUSIVE", "SHARE",
            "SHARE ROW EXCLUSIVE", "EXCLUSIVE", "ACCESS EXCLUSIVE"};
        for (String mode : modes) {
            d.ask(0, "LOCK t " + mode, "LOCK T");
        }
        d.ask(0, "SAVEPOINT a;", "SAVEPOINT T");
        d.ask(0, "ROLLBACK TO a", "ROLLBACK T");
        d.ask(0, "RELEASE a", "RELEASE T");
        d.ask(0, "COMMIT", "COMMIT I");
        for (String level : new String[] {"", " READ COMMITTED", " REPEATABLE READ", " SERIALIZABLE"}) {
            d.ask(0, "BEGIN" + level, "BEGIN T");
            d.ask(0, "ROLLBACK", "ROLLBACK I");
        }
        d.ask(0, "CHECKPOINT", "CHECKPOINT I");
        d.ask(0, "VACUUM t", "VACUUM 0 I");
        d.ask(0, "CREATE INDEX ON t (v)", "CREATE I");
        d.ask(0, "PREPARE p AS DELETE FROM t WHERE k = 99;", "PREPARE I");
        d.ask(0, "EXECUTE p;", "DELETE 0 I");
    }

    private static void depth() {
        Desk d = desk("depth");
        d.ask(0, "SELECT " + repeat("(", 20) + "k" + repeat(")", 20) + " FROM t LIMIT 1", "i (1) SELECT 1 I");
        d.ask(0, "SELECT " + repeat("(", 21) + "k" + repeat(")", 21) + " FROM t LIMIT 1", "42601 I");
        d.ask(0, "SELECT " + repeat("-", 20) + "k FROM t LIMIT 1", "i (1) SELECT 1 I");
        d.ask(0, "SELECT " + repeat("-", 21) + "k FROM t LIMIT 1", "42601 I");
        d.ask(0, "SELECT " + repeat("NOT ", 20) + "b FROM t LIMIT 1", "b (t) SELECT 1 I");
        d.ask(0, "SELECT " + repeat("NOT ", 21) + "b FROM t LIMIT 1", "42601 I");
        d.ask(0, "SELECT " + repeat("(", 19) + "SUM(k)" + repeat(")", 19) + " FROM t", "i (6) SELECT 1 I");
        d.ask(0, "SELECT " + repeat("(", 20) + "SUM(k)" + repeat(")", 20) + " FROM t", "42601 I");
        d.ask(0, "SELECT " + repeat("(", 20) + "COUNT(*)" + repeat(")", 20) + " FROM t", "i (3) SELECT 1 I");
        d.ask(0, "SELECT " + repeat("(", 19) + "k IN (1)" + repeat(")", 19) + " FROM t LIMIT 1", "b (t) SELECT 1 I");
        d.ask(0, "SELECT " + repeat("(", 20) + "k IN (1)" + repeat(")", 20) + " FROM t LIMIT 1", "42601 I");
        d.ask(0, "INSERT INTO t VALUES (" + repeat("(", 20) + "9" + repeat(")", 20) + ", 1, '', TRUE)", "INSERT 1 I");
        d.ask(0, "INSERT INTO t VALUES (" + repeat("(", 21) + "9" + repeat(")", 21) + ", 1, '', TRUE)", "42601 I");
        // What stands beside and not inside does not count.
        d.ask(0, "SELECT " + repeat("(", 10) + "k" + repeat(")", 10) + "+" + repeat("(", 15) + repeat("-", 5) + "k"
            + repeat(")", 15) + " FROM t LIMIT 1", "i (0) SELECT 1 I");
    }

    private static void nodes() {
        Desk d = desk("nodes");
        d.ask(0, "SELECT 1" + repeat("+1", 99) + " FROM t LIMIT 1", "i (100) SELECT 1 I");
        d.ask(0, "SELECT -1" + repeat("+1", 99) + " FROM t LIMIT 1", "i (98) SELECT 1 I");
        d.ask(0, "SELECT --1" + repeat("+1", 99) + " FROM t LIMIT 1", "54001 I");
        d.ask(0, "SELECT 1" + repeat("+1", 100) + " FROM t LIMIT 1", "54001 I");
        d.ask(0, "SELECT 1" + repeat("+1", 100) + " FROM t LIMIT", "42601 I");
        // x IN (..) of n has 4 n - 1 nodes.
        d.ask(0, "SELECT k IN (1" + repeat(",1", 49) + ") FROM t LIMIT 1", "b (t) SELECT 1 I");
        d.ask(0, "SELECT -k IN (1" + repeat(",1", 49) + ") FROM t LIMIT 1", "54001 I");
        d.ask(0, "SELECT NOT k IN (1" + repeat(",1", 49) + ") FROM t LIMIT 1", "b (f) SELECT 1 I");
        d.ask(0, "SELECT k NOT IN (1" + repeat(",1", 49) + "), 1 FROM t LIMIT 1", "54001 I");
        // x BETWEEN has its x twice: 7 nodes each of 25, and 24 times AND.
        d.ask(0, "SELECT k BETWEEN 0 AND 9" + repeat(" AND k BETWEEN 0 AND 9", 24) + " FROM t LIMIT 1",
            "b (t) SELECT 1 I");
        d.ask(0, "SELECT k BETWEEN 0 AND 9" + repeat(" AND k BETWEEN 0 AND 9", 24) + ", 1 FROM t LIMIT 1",
            "bi (t,1) SELECT 1 I");
        d.ask(0, "SELECT k BETWEEN 0 AND 9" + repeat(" AND k BETWEEN 0 AND 9", 24) + ", 1, 1 FROM t LIMIT 1",
            "54001 I");
        // Nested ones multiply.
        String x = "k";
        for (int i = 0; i < 19; i++) {
            x = "(" + x + " BETWEEN 1 AND 2)";
        }
        d.ask(0, "SELECT " + x + " FROM t", "54001 I");
        // Places of GROUP BY are nodes; those of * too, but later.
        d.ask(0, "SELECT 1" + repeat("+1", 98) + ", 1, k FROM t GROUP BY k LIMIT 1",
            "iii (99,1,1) SELECT 1 I");
        d.ask(0, "SELECT 1" + repeat("+1", 98) + ", 1, -k FROM t GROUP BY k LIMIT 1", "54001 I");
        d.ask(0, "SELECT * FROM t WHERE 0 < 1" + repeat("+1", 96) + " LIMIT 1", "iitb (1,10,a,t) SELECT 1 I");
        d.ask(0, "SELECT * FROM t WHERE 0 < -1" + repeat("+1", 96) + " LIMIT 1", "iitb (1,10,a,t) SELECT 1 I");
        d.ask(0, "SELECT * FROM t WHERE 0 < --1" + repeat("+1", 96) + " LIMIT 1", "54001 I");
        d.ask(0, "SELECT * FROM t WHERE nosuch < --1" + repeat("+1", 96) + " LIMIT 1", "42703 I");
        StringBuilder rows = new StringBuilder("INSERT INTO t VALUES (11,1,'',TRUE)");
        for (int i = 12; i < 61; i++) {
            rows.append(",(").append(i).append(",1,'',TRUE)");
        }
        d.ask(0, rows.toString(), "INSERT 50 I");
        d.ask(0, rows + ",(1)", "54001 I");
    }

    private static void limits() {
        Desk d = desk("limits");
        d.ask(0, "SELECT 1 FROM t a, t b, t c LIMIT 1", "i (1) SELECT 1 I");
        d.ask(0, "SELECT 1 FROM t a, t b, t c, t e", "54011 I");
        d.ask(0, "INSERT INTO t SELECT 1 FROM t a, t b, t c, t e", "54011 I");
        d.ask(0, "SELECT 1,2,3,4,5,6,7,8 FROM t LIMIT 1", "iiiiiiii (1,2,3,4,5,6,7,8) SELECT 1 I");
        d.ask(0, "SELECT 1,2,3,4,5,6,7,8,9 FROM t", "54011 I");
        d.ask(0, "SELECT 1 FROM t GROUP BY k,k,k,k LIMIT 1", "i (1) SELECT 1 I");
        d.ask(0, "SELECT 1 FROM t GROUP BY k,k,k,k,k", "54011 I");
        d.ask(0, "SELECT k FROM t ORDER BY 1,1,1,1 LIMIT 1", "i (1) SELECT 1 I");
        d.ask(0, "SELECT k FROM t ORDER BY 1,1,1,1,1", "54011 I");
        d.ask(0, "CREATE TABLE a (a INT, b INT, c INT, d INT, e INT, f INT, g INT, h INT)", "CREATE I");
        d.ask(0, "CREATE TABLE b (a INT, b INT, c INT, d INT, e INT, f INT, g INT, h INT, i INT)", "54011 I");
        d.ask(0, "UPDATE a SET a=1,b=1,c=1,d=1,e=1,f=1,g=1,h=1", "UPDATE 0 I");
        d.ask(0, "UPDATE a SET a=1,b=1,c=1,d=1,e=1,f=1,g=1,h=1,h=1", "54011 I");
        d.ask(0, "UPDATE nosuch SET a=1,b=1,c=1,d=1,e=1,f=1,g=1,h=1,h=1", "54011 I");
        d.ask(0, "SELECT 1,2,3,4,5,6,7,8,9" + repeat("+1", 100) + " FROM t", "54001 I");
    }

    private static void when() {
        Desk d = desk("when");
        String[] outside = {"COMMIT", "ROLLBACK", "SAVEPOINT a", "ROLLBACK TO a", "RELEASE a", "LOCK t SHARE"};
        for (String text : outside) {
            d.ask(0, text, "25P01 I");
        }
        d.ask(0, "LOCK nosuch SHARE", "25P01 I");
        String[] never = {"BEGIN", "CREATE TABLE t (k INT)", "CREATE INDEX ON t (nosuch)", "DROP TABLE nosuch",
            "VACUUM nosuch", "CHECKPOINT"};
        for (String text : never) {
            d.ask(0, "BEGIN", "BEGIN T");
            d.ask(0, text, "25001 F");
            d.ask(0, "COMMIT", "COMMIT I");
        }
        d.ask(0, "BEGIN", "BEGIN T");
        d.ask(0, "NONSENSE", "42601 F");
        d.ask(0, "NONSENSE", "42601 F");
        d.ask(0, "SELECT 1,2,3,4,5,6,7,8,9 FROM t", "54011 F");
        String[] failed = {"BEGIN", "SELECT k FROM t", "SELECT k FROM nosuch", "SAVEPOINT a", "RELEASE a",
            "PREPARE p AS SELECT k FROM t", "EXECUTE p", "LOCK t SHARE", "CHECKPOINT"};
        for (String text : failed) {
            d.ask(0, text, "25P02 F");
        }
        d.ask(0, "ROLLBACK TO a", "3B001 F");
        d.ask(0, "ROLLBACK", "ROLLBACK I");
    }
}
