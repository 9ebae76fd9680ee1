/** Promise 5: the meaning of statements, gone over four times, parameters, and what is behind that. */
public final class MeaningTest {
    public static void main(String[] args) {
        names();
        types();
        order();
        shape();
        grouping();
        behind();
        parameters();
        execute();
        Desk.end("MeaningTest");
    }

    private static Desk desk(String name) {
        Desk d = Desk.with(name, 2);
        d.ask(0, "CREATE TABLE t (k INT, s TEXT, b BOOL)", "CREATE I");
        d.ask(0, "CREATE TABLE u (k INT, w INT)", "CREATE I");
        d.ask(0, "INSERT INTO t VALUES (1, 'a', TRUE)", "INSERT 1 I");
        d.ask(0, "INSERT INTO u VALUES (1, 5)", "INSERT 1 I");
        return d;
    }

    private static void names() {
        Desk d = desk("names");
        String[] none = {"SELECT k FROM x", "SELECT k FROM t, x", "INSERT INTO x VALUES (1)", "UPDATE x SET k = 1",
            "DELETE FROM x", "DROP TABLE x", "VACUUM x", "CREATE INDEX ON x (k)", "INSERT INTO t SELECT k FROM x",
            "INSERT INTO x SELECT k FROM t", "PREPARE p AS SELECT k FROM x", "SELECT x.k FROM t",
            "SELECT t.k FROM t a", "UPDATE t SET k = u.k", "DELETE FROM t WHERE u.k = 1",
            "INSERT INTO t VALUES (t.k, '', TRUE)", "EXECUTE p (t.k)", "SELECT k FROM t GROUP BY u.k"};
        for (String text : none) {
            d.ask(0, text, "42P01 I");
        }
        d.ask(0, "SELECT 1 FROM t, t", "42712 I");
        d.ask(0, "SELECT 1 FROM t a, u a", "42712 I");
        d.ask(0, "SELECT 1 FROM t u, u", "42712 I");
        d.ask(0, "SELECT 1 FROM t a, u a, x", "42712 I");
        d.ask(0, "SELECT 1 FROM x, t a, u a", "42P01 I");
        d.ask(0, "SELECT t.k, u.w FROM u t, t u", "42703 I");
        d.ask(0, "SELECT t.w, u.s FROM u t, t u", "it (5,a) SELECT 1 I");
        String[] column = {"SELECT x FROM t", "SELECT t.x FROM t", "UPDATE t SET x = 1", "CREATE INDEX ON t (x)",
            "DELETE FROM t WHERE x = 1", "INSERT INTO t VALUES (k, '', TRUE)", "EXECUTE p (k)",
            "SELECT 1 FROM t GROUP BY x", "UPDATE t SET k = w", "SELECT 1 FROM t WHERE w = 1"};
        for (String text : column) {
            d.ask(0, text, "42703 I");
        }
        d.ask(0, "SELECT k FROM t, u", "42702 I");
        d.ask(0, "SELECT w, s FROM t, u", "it (5,a) SELECT 1 I");
        d.ask(0, "SELECT a.k FROM t a, t b GROUP BY k", "42702 I");
    }

    private static void types() {
        Desk d = desk("types");
        String[] wrong = {"k + s", "s + 1", "k - b", "k * 'a'", "k / TRUE", "k % s", "-s", "-b", "k || s", "s || k",
            "b || s", "NOT k", "NOT s", "k AND b", "b AND s", "b OR k", "k = s", "s <> b", "b < k", "k <= 'a'",
            "s > 1", "TRUE >= 1", "k IN (1, 'a')", "k BETWEEN 1 AND 'a'", "k BETWEEN 'a' AND 1", "SUM(s)", "SUM(b)",
            "MIN(b)", "MAX(k = 1)", "MIN(s) + 1", "COUNT(s) || 'a'", "(k IS NULL) + 1", "COUNT(k + s)"};
        for (String text : wrong) {
            d.ask(0, "SELECT " + text + " FROM t", "42804 I");
        }
        d.ask(0, "SELECT k FROM t WHERE k", "42804 I");
        d.ask(0, "DELETE FROM t WHERE s", "42804 I");
        d.ask(0, "UPDATE t SET k = 1 WHERE 1", "42804 I");
        d.ask(0, "UPDATE t SET k = s", "42804 I");
        d.ask(0, "UPDATE t SET b = 1", "42804 I");
        d.ask(0, "INSERT INTO t VALUES ('a', 'a', TRUE)", "42804 I");
        d.ask(0, "INSERT INTO t VALUES (1, 'a', TRUE), (1, 1, TRUE)", "42804 I");
        d.ask(0, "INSERT INTO t SELECT k, k, b FROM t", "42804 I");
        d.ask(0, "INSERT INTO u SELECT * FROM t", "42804 I");
        d.ask(0, "INSERT INTO u SELECT w, k FROM u", "INSERT 1 I");
        d.ask(0, "SELECT NULL, NULL + 1, NULL || NULL, NOT NULL, NULL = NULL, -NULL FROM t",
            "titbbi (~,~,~,~,~,~) SELECT 1 I");
        d.ask(0, "SELECT MIN(NULL), MAX(NULL) + 1, MIN(NULL) || 'a', SUM(NULL), COUNT(NULL), MIN(NULL) = b FROM t",
            "42803 I");
        d.ask(0, "SELECT MIN(NULL), MAX(NULL) + 1, MIN(NULL) || 'a', SUM(NULL), COUNT(NULL), MIN(NULL) = TRUE FROM t",
            "titiib (~,~,~,~,0,~) SELECT 1 I");
        d.ask(0, "SELECT k = NULL, s = NULL, b = NULL, k IS NULL, s IS NOT NULL FROM t",
            "bbbbb (~,~,~,f,t) SELECT 1 I");
        d.ask(0, "DELETE FROM t WHERE NULL", "DELETE 0 I");
        d.ask(0, "UPDATE t SET k = NULL, s = NULL, b = NULL WHERE k = 1", "UPDATE 1 I");
        d.ask(0, "INSERT INTO t VALUES (NULL, NULL, NULL)", "INSERT 1 I");
        d.ask(0, "SELECT MIN(s), MAX(k) FROM t", "ti (~,~) SELECT 1 I");
    }

    private static void order() {
        Desk d = desk("order");
        // From the left, operands before what works on them.
        d.ask(0, "SELECT k + s, x FROM t", "42804 I");
        d.ask(0, "SELECT x, k + s FROM t", "42703 I");
        d.ask(0, "SELECT s + x FROM t", "42703 I");
        d.ask(0, "SELECT (k + s) + x FROM t", "42804 I");
        d.ask(0, "SELECT k FROM t WHERE k + s = 1 GROUP BY x", "42804 I");
        d.ask(0, "SELECT k + s FROM t WHERE x = 1", "42804 I");
        d.ask(0, "SELECT k FROM t WHERE k GROUP BY x", "42804 I");
        d.ask(0, "UPDATE t SET k = s, x = 1", "42804 I");
        d.ask(0, "UPDATE t SET x = 1, k = s", "42703 I");
        d.ask(0, "UPDATE t SET x = k + s", "42703 I");
        d.ask(0, "UPDATE t SET k = s WHERE x = 1", "42804 I");
        d.ask(0, "INSERT INTO t VALUES ('a', x, TRUE)", "42804 I");
        d.ask(0, "INSERT INTO t VALUES (x, 1, TRUE)", "42703 I");
        d.ask(0, "INSERT INTO u SELECT s, x FROM t", "42804 I");
        d.ask(0, "INSERT INTO u SELECT x, s FROM t", "42703 I");
        d.ask(0, "INSERT INTO u SELECT * FROM t WHERE x = 1", "42804 I");
        // The first pass is before the second, that before the third, and so on.
        d.ask(0, "SELECT k + s FROM t, x", "42P01 I");
        d.ask(0, "INSERT INTO t VALUES (1, 2)", "42804 I");
        d.ask(0, "INSERT INTO t VALUES (1, 'a')", "42601 I");
        d.ask(0, "SELECT k, s FROM t GROUP BY k ORDER BY 3", "42601 I");
        d.ask(0, "SELECT k, s FROM t GROUP BY k FOR UPDATE", "42803 I");
        d.ask(0, "SELECT k FROM t WHERE k IN (x, k + s)", "42703 I");
        d.ask(0, "SELECT k FROM t WHERE k IN (s, x)", "42804 I");
        d.ask(0, "SELECT k FROM t WHERE k BETWEEN s AND x", "42804 I");
    }

    private static void shape() {
        Desk d = desk("shape");
        d.ask(0, "CREATE TABLE f (a INT, b INT, c INT, d INT, e INT, f INT)", "CREATE I");
        d.ask(0, "SELECT * FROM f, u", "iiiiiiii SELECT 0 I");
        d.ask(0, "SELECT * FROM f, t", "54011 I");
        d.ask(0, "SELECT * FROM f, t ORDER BY 10", "54011 I");
        d.ask(0, "SELECT * FROM u, t", "iiitb (1,5,1,a,t) SELECT 1 I");
        d.ask(0, "SELECT * FROM t, u", "itbii (1,a,t,1,5) SELECT 1 I");
        d.ask(0, "INSERT INTO u SELECT * FROM f", "42601 I");
        d.ask(0, "INSERT INTO u SELECT k FROM u", "42601 I");
        d.ask(0, "INSERT INTO u SELECT k, w, 'a' FROM u", "42601 I");
        d.ask(0, "INSERT INTO u VALUES (1)", "42601 I");
        d.ask(0, "INSERT INTO u VALUES (1, 2, 'a')", "42601 I");
        d.ask(0, "INSERT INTO u VALUES (1, 2), (1)", "42601 I");
        d.ask(0, "INSERT INTO u VALUES (1), (1, 2, 3)", "42601 I");
        d.ask(0, "UPDATE u SET k = 1, w = 1, k = 1", "42601 I");
        d.ask(0, "SELECT k FROM t ORDER BY 0", "42601 I");
        d.ask(0, "SELECT k FROM t ORDER BY 2", "42601 I");
        d.ask(0, "SELECT * FROM t ORDER BY 3", "itb (1,a,t) SELECT 1 I");
        d.ask(0, "SELECT * FROM t ORDER BY 4", "42601 I");
        d.ask(0, "SELECT k FROM t ORDER BY 999999999999999999", "42601 I");
        d.ask(0, "SELECT $1 FROM t", "42601 I");
        d.ask(0, "EXECUTE p ($1)", "42601 I");
        d.ask(0, "INSERT INTO u VALUES ($1, 2)", "42601 I");
        d.ask(0, "CREATE TABLE g (a INT, b INT, a TEXT)", "42601 I");
        d.ask(0, "CREATE TABLE t (a INT, a TEXT)", "42601 I");
        d.count(5, 3);
    }

    private static void grouping() {
        Desk d = desk("grouping");
        String[] wrong = {"SELECT COUNT(*), k FROM t", "SELECT k FROM t GROUP BY s", "SELECT * FROM t GROUP BY k",
            "SELECT SUM(COUNT(*)) FROM t", "SELECT MAX(1 + MIN(k)) FROM t", "SELECT SUM(k) + k FROM t",
            "SELECT COUNT(COUNT(k)) FROM t GROUP BY k", "SELECT a.k FROM t a, t b GROUP BY b.k"};
        for (String text : wrong) {
            d.ask(0, text, "42803 I");
        }
        d.ask(0, "SELECT k + 1, s || s FROM t GROUP BY s, k", "it (2,aa) SELECT 1 I");
        d.ask(0, "SELECT * FROM u GROUP BY w, k", "ii (1,5) SELECT 1 I");
        d.ask(0, "SELECT t.k FROM t GROUP BY k", "i (1) SELECT 1 I");
        d.ask(0, "SELECT 7 FROM t GROUP BY k", "i (7) SELECT 1 I");
        String[] none = {"SELECT t.k FROM t, u FOR UPDATE", "SELECT DISTINCT k FROM t FOR SHARE",
            "SELECT k FROM t GROUP BY k FOR UPDATE", "SELECT COUNT(*) FROM t FOR SHARE",
            "INSERT INTO u SELECT k, w FROM u FOR UPDATE"};
        for (String text : none) {
            d.ask(0, text, "0A000 I");
        }
        d.ask(0, "SELECT k FROM t ORDER BY 1 LIMIT 1 FOR SHARE", "i (1) SELECT 1 I");
    }

    private static void behind() {
        Desk d = desk("behind");
        d.ask(0, "CREATE TABLE t (a INT)", "42P07 I");
        for (int i = 3; i <= 7; i++) {
            d.ask(0, "CREATE TABLE t" + i + " (a INT)", "CREATE I");
        }
        d.ask(0, "CREATE TABLE t8 (a INT UNIQUE, b INT UNIQUE, c INT)", "CREATE I");
        d.count(5, 8);
        d.count(6, 2);
        d.ask(0, "CREATE TABLE t9 (a INT)", "54023 I");
        d.ask(0, "CREATE TABLE t8 (a INT)", "42P07 I");
        d.ask(0, "DROP TABLE t3", "DROP I");
        d.ask(0, "CREATE TABLE t9 (a INT UNIQUE, b INT UNIQUE, c INT UNIQUE, d INT UNIQUE, e INT UNIQUE, "
            + "f INT UNIQUE, g INT UNIQUE)", "54023 I");
        d.ask(0, "CREATE TABLE t9 (a INT UNIQUE, b INT UNIQUE, c INT UNIQUE, d INT UNIQUE, e INT UNIQUE, "
            + "f INT UNIQUE, g INT)", "CREATE I");
        d.count(6, 8);
        d.ask(0, "CREATE INDEX ON t (k)", "54023 I");
        d.ask(0, "DROP TABLE t9", "DROP I");
        d.count(6, 2);
        d.ask(0, "CREATE INDEX ON t (k)", "CREATE I");
        d.ask(0, "CREATE UNIQUE INDEX ON t (k)", "CREATE I");
        d.count(6, 4);
        d.ask(0, "INSERT INTO t VALUES (1, '', TRUE)", "23505 I");
        d.ask(0, "INSERT INTO t VALUES (NULL, 'x', TRUE), (NULL, 'x', TRUE)", "INSERT 2 I");
        d.ask(0, "CREATE UNIQUE INDEX ON t (s)", "23505 I");
        d.ask(0, "DELETE FROM t WHERE s = 'x'", "DELETE 2 I");
        d.ask(0, "CREATE UNIQUE INDEX ON t (s)", "CREATE I");
        d.ask(0, "INSERT INTO t VALUES (7, 'a', TRUE)", "23505 I");
        for (int i = 1; i <= 8; i++) {
            d.ask(0, "PREPARE p" + i + " AS SELECT k FROM t", "PREPARE I");
        }
        d.ask(0, "PREPARE p8 AS SELECT k FROM t", "42P05 I");
        d.ask(0, "PREPARE p9 AS SELECT k FROM t", "54023 I");
        d.ask(0, "PREPARE p8 AS SELECT k FROM nosuch", "42P01 I");
        d.ask(1, "EXECUTE p8", "26000 I");
        d.ask(1, "PREPARE p8 AS SELECT w FROM u", "PREPARE I");
        d.ask(1, "EXECUTE p8", "i (5) SELECT 1 I");
        d.ask(0, "EXECUTE p8", "i (1) SELECT 1 I");
        d.x.close(1);
        d.x.open(1);
        d.ask(1, "EXECUTE p8", "26000 I");
    }

    private static void parameters() {
        Desk d = desk("parameters");
        // Each row: a query, and values that fit it one by one, with what comes of them.
        d.ask(0, "PREPARE a AS SELECT $1, $2 IS NULL, $3 = $4, COUNT($5), MIN($6), NULL = $7, MIN(NULL) = $8 FROM t",
            "PREPARE I");
        d.ask(0, "EXECUTE a ('x', 'x', 'x', 'x', 'x', 'y', 'x', 'x')", "tbbitbb (x,f,t,1,y,~,~) SELECT 1 I");
        for (int i = 1; i <= 8; i++) {
            StringBuilder b = new StringBuilder("EXECUTE a (");
            for (int k = 1; k <= 8; k++) {
                b.append(k > 1 ? ", " : "").append(k == i ? "1" : "'x'");
            }
            d.ask(0, b + ")", "42804 I");
        }
        d.ask(0, "PREPARE b AS SELECT $1 + 1, $2 || 'a', NOT $3, k = $4, s = $5, b = $6, SUM($7) FROM t "
            + "WHERE $8 GROUP BY k, s, b", "PREPARE I");
        d.ask(0, "EXECUTE b (1, 'a', TRUE, 1, 'a', TRUE, 5, TRUE)", "itbbbbi (2,aa,f,t,t,t,5) SELECT 1 I");
        String[] good = {"1", "'a'", "TRUE", "1", "'a'", "TRUE", "5", "TRUE"};
        for (int i = 1; i <= 8; i++) {
            StringBuilder b = new StringBuilder("EXECUTE b (");
            for (int k = 1; k <= 8; k++) {
                b.append(k > 1 ? ", " : "").append(k != i ? good[k - 1] : good[k - 1].startsWith("'") ? "1" : "'a'");
            }
            d.ask(0, b + ")", "42804 I");
        }
        // The first place counts.
        d.ask(0, "PREPARE c AS SELECT $1 FROM t WHERE k = $1", "42804 I");
        d.ask(0, "PREPARE c AS SELECT k FROM t WHERE k = $1 AND $1 IS NULL", "PREPARE I");
        d.ask(0, "PREPARE e AS SELECT k FROM t WHERE $1 IS NULL OR k = $1", "42804 I");
        d.ask(0, "PREPARE e AS SELECT k FROM t WHERE $1 BETWEEN $2 AND 5", "42804 I");
        d.ask(0, "PREPARE e AS SELECT k FROM t WHERE $1 BETWEEN 5 AND $2", "PREPARE I");
        d.ask(0, "EXECUTE e (7, 8)", "i (1) SELECT 1 I");
        d.ask(0, "EXECUTE e (7, 6)", "i SELECT 0 I");
        d.ask(0, "PREPARE f AS SELECT k FROM t WHERE $1 = ($1 IS NULL)", "PREPARE I");
        d.ask(0, "EXECUTE f (FALSE)", "i (1) SELECT 1 I");
        d.ask(0, "EXECUTE f ('a')", "42804 I");
        firstPlaces();
        d.ask(0, "PREPARE g AS INSERT INTO t VALUES ($1, $2, $3)", "PREPARE I");
        d.ask(0, "EXECUTE g (2, 'b', FALSE)", "INSERT 1 I");
        d.ask(0, "EXECUTE g ('b', 2, FALSE)", "42804 I");
        d.ask(0, "PREPARE h AS INSERT INTO t SELECT $1, $2, $3 FROM u", "PREPARE I");
        d.ask(0, "EXECUTE h (3, NULL, FALSE)", "INSERT 1 I");
        d.ask(0, "PREPARE i AS INSERT INTO t SELECT $1, $2, $3, $4 FROM u", "42601 I");
        d.ask(0, "SELECT k, s, b FROM t", "itb (1,a,t) (2,b,f) (3,~,f) SELECT 3 I");
    }

    /** The first place tells the type, also where it is worked on behind a later place. */
    private static void firstPlaces() {
        String[][] rows = {
            {"$1 AND ($1 = $1)", "TRUE", "b (t)"},
            {"$1 = ($1 = $1)", "FALSE", "b (f)"},
            {"$1 = ($1 IS NULL)", "FALSE", "b (t)"},
            {"$1 + MIN($1)", "5", "i (10)"},
            {"$1 || MAX($1)", "'a'", "t (aa)"},
            {"$1 = MIN($1)", "'a'", "b (t)"},
            {"$2 AND ($1 = $2)", "TRUE, TRUE", "b (t)"},
            {"$2 + 1 = 2 AND $1 = $2", "1, 1", "b (t)"},
            {"$1 = $2", "'a', 'b'", "b (f)"},
            {"($1 = $2) = ($3 = $1)", "'a', 'b', 'a'", "b (f)"},
            {"$3 = ($2 = ($1 = $3))", "TRUE, TRUE, TRUE", "b (t)"},
            {"$1 = COUNT($2)", "1, 'x'", "b (t)"},
            {"$1 IN ($2, 5)", "'a', 'b'", ""},
            {"$1 IN (5, $2)", "1, 1", "b (t)"},
            {"$1 AND ($1 + 1 = 2)", "", ""},
            {"$1 AND ($1 + 1 = x)", "", ""},
            {"$1 AND MIN($1) = 'a'", "", ""},
            {"MIN($1) + 1", "", ""},
            {"MIN($1) = 1", "", ""},
            {"MIN($1) || 'b'", "'a'", "t (ab)"},
            {"COUNT($1) + $1", "", ""},
            {"($1 IS NULL) = $1", "", ""},
            {"($1 = NULL) = $1", "", ""},
            {"($1 = MAX(NULL)) = $1", "", ""},
        };
        for (String[] row : rows) {
            Desk d = desk("first places: " + row[0]);
            d.ask(0, "PREPARE p AS SELECT " + row[0] + " FROM t", row[2].isEmpty() ? "42804 I" : "PREPARE I");
            if (!row[2].isEmpty()) {
                d.ask(0, "EXECUTE p (" + row[1] + ")", row[2] + " SELECT 1 I");
            }
        }
    }

    private static void execute() {
        Desk d = desk("execute");
        d.ask(0, "PREPARE p AS SELECT k, $3 FROM t WHERE k > $1", "PREPARE I");
        d.ask(0, "EXECUTE p (0, 5, 'z')", "it (1,z) SELECT 1 I");
        d.ask(0, "EXECUTE p (0, TRUE, NULL)", "it (1,~) SELECT 1 I");
        d.ask(0, "EXECUTE p (1 - 1, TRUE, 'a' || 'b')", "it (1,ab) SELECT 1 I");
        d.ask(0, "EXECUTE p", "42601 I");
        d.ask(0, "EXECUTE p (0, 5)", "42601 I");
        d.ask(0, "EXECUTE p (0, 5, 'z', 1)", "42601 I");
        d.ask(0, "EXECUTE p ('a', 5)", "42601 I");
        d.ask(0, "EXECUTE p ('a', 5, 'z')", "42804 I");
        d.ask(0, "EXECUTE q (1 + 'a')", "42804 I");
        d.ask(0, "EXECUTE q (1, 2)", "26000 I");
        d.ask(0, "PREPARE q AS SELECT * FROM t", "PREPARE I");
        d.ask(0, "EXECUTE q (1)", "42601 I");
        d.ask(0, "EXECUTE q", "itb (1,a,t) SELECT 1 I");
        d.ask(0, "PREPARE r AS SELECT k FROM t WHERE $1 = k", "PREPARE I");
        d.ask(0, "PREPARE v AS UPDATE t SET k = k + $1 WHERE s = $2", "PREPARE I");
        d.ask(0, "EXECUTE v (5, 'a')", "UPDATE 1 I");
        d.ask(0, "PREPARE w AS SELECT 1 FROM t ORDER BY 1", "PREPARE I");
        d.ask(0, "DROP TABLE t", "DROP I");
        d.ask(0, "EXECUTE q", "42P01 I");
        d.ask(0, "CREATE TABLE t (k TEXT, x INT)", "CREATE I");
        d.ask(0, "INSERT INTO t VALUES ('a', 4)", "INSERT 1 I");
        d.ask(0, "EXECUTE q", "ti (a,4) SELECT 1 I");
        d.ask(0, "EXECUTE r ('a')", "42804 I");
        d.ask(0, "EXECUTE r (1)", "42804 I");
        d.ask(0, "EXECUTE r (NULL)", "t SELECT 0 I");
        d.ask(0, "EXECUTE r (1 / 0)", "t SELECT 0 I");
        d.ask(0, "EXECUTE v (5, 'a')", "42804 I");
        d.ask(0, "EXECUTE p (0, 5, 'z')", "42804 I");
        d.ask(0, "EXECUTE w", "i (1) SELECT 1 I");
        d.ask(0, "BEGIN", "BEGIN T");
        d.ask(0, "EXECUTE w", "i (1) SELECT 1 T");
        d.ask(0, "PREPARE z AS DELETE FROM t", "PREPARE T");
        d.ask(0, "EXECUTE z", "DELETE 1 T");
        d.ask(0, "ROLLBACK", "ROLLBACK I");
        d.ask(0, "EXECUTE z", "DELETE 1 I");
    }
}
