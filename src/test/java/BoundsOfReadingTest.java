/** Promise 5, sentence by sentence: the bounds of statements, nodes, depth and meaning (STATEMENTS, ERRORS of reading). */
public final class BoundsOfReadingTest {
    private static final String COLUMNS8 = "(a INT, b INT, c INT, d INT, e INT, f INT, g INT, h INT)";

    public static void main(String[] args) {
        semicolons();
        wordsAlone();
        partsMissing();
        optionalParts();
        depthOfBrackets();
        depthOfSigns();
        depthOfLists();
        depthBeside();
        nodesOfOperators();
        nodesOfBetween();
        nodesOfIn();
        nodesOfGroups();
        nodesOfRows();
        nodesOfStar();
        nodesOfExecute();
        tablesOfAQuery();
        itemsOfAQuery();
        groupsAndOrders();
        columnsOfATable();
        columnsOfSet();
        orderOfReading();
        starOfEight();
        ordersOfItems();
        valuesOfRows();
        setTwice();
        parametersOutside();
        columnsTwice();
        sameTables();
        severalColumns();
        eightTables();
        eightIndexes();
        eightIndexesBehindTheLock();
        indexesOfATableThatIsDropped();
        eightPrepared();
        sevenSavepoints();
        noSuchSavepoint();
        valuesOfExecute();
        readAnew();
        nullsOfExecute();
        nullsOfExecuteBehind();
        whenFailed();
        whenIdle();
        Desk.end("BoundsOfReadingTest");
    }

    private static Desk desk(String name) {
        Desk d = Desk.with(name, 2);
        d.ask(0, "CREATE TABLE t (k INT, s TEXT, b BOOL)", "CREATE I");
        d.ask(0, "INSERT INTO t VALUES (1, 'a', TRUE)", "INSERT 1 I");
        return d;
    }

    private static String in(String left, int n, String middle, String right) {
        return Desk.repeat(left, n) + middle + Desk.repeat(right, n);
    }

    /** A sum of ones with so many nodes; an odd number. */
    private static String sum(int nodes) {
        return "1" + Desk.repeat("+1", nodes / 2);
    }

    // "A STATEMENT, perhaps with one ; at its end"
    private static void semicolons() {
        Desk d = desk("semicolons");
        d.ask(0, "CHECKPOINT;", "CHECKPOINT I");
        d.ask(0, "CHECKPOINT ; ", "CHECKPOINT I");
        d.ask(0, "CHECKPOINT;;", "42601 I");
        d.ask(0, "; CHECKPOINT", "42601 I");
        d.ask(0, ";", "42601 I");
        d.ask(0, "CHECKPOINT; CHECKPOINT", "42601 I");
        d.ask(0, "PREPARE p AS SELECT k FROM t;", "PREPARE I");
        d.ask(0, "EXECUTE p;", "i (1) SELECT 1 I");
        d.ask(0, "PREPARE q AS SELECT k FROM t;;", "42601 I");
    }

    private static void wordsAlone() {
        Desk d = desk("words alone");
        String[] words = ("CREATE TABLE NOT NULL UNIQUE INT TEXT BOOL INDEX ON DROP INSERT INTO VALUES UPDATE SET WHERE DELETE "
            + "FROM SELECT DISTINCT GROUP BY ORDER DESC LIMIT FOR SHARE READ COMMITTED REPEATABLE SERIALIZABLE SAVEPOINT TO "
            + "RELEASE LOCK PREPARE AS EXECUTE VACUUM ACCESS ROW EXCLUSIVE OR AND IS BETWEEN IN TRUE FALSE COUNT SUM MIN MAX "
            + "a 1 $1 '' ( ) , . ; * = <> < <= > >= + - / % ||").split(" ");
        for (String word : words) {
            d.ask(0, word, "42601 I");
        }
    }

    private static void partsMissing() {
        Desk d = desk("parts missing");
        String[] texts = {"CREATE TABLE w (INT)", "CREATE TABLE w (a TABLE)", "CREATE TABLE w (a UNIQUE)", "CREATE TABLE w (a INDEX)",
            "CREATE TABLE w (a INT b INT)", "CREATE TABLE w a INT", "CREATE TABLE (a INT)", "CREATE INDEX ON t ()",
            "CREATE INDEX ON (k)", "CREATE UNIQUE ON t (k)", "CREATE INDEX t (k)", "INSERT INTO t", "INSERT INTO t VALUES (1, 'a', TRUE",
            "INSERT INTO t VALUES (1, 'a', TRUE), (2, 'a', TRUE", "INSERT INTO t VALUES 1, 'a', TRUE)", "UPDATE t SET k =",
            "UPDATE t SET = 1", "UPDATE t SET k = 1 s = 'a'", "UPDATE SET k = 1", "DELETE FROM", "DELETE FROM WHERE TRUE",
            "SELECT COUNT FROM t", "SELECT SUM FROM t", "SELECT COUNT( FROM t", "SELECT COUNT(* FROM t", "SELECT MIN(k FROM t",
            "SELECT k BETWEEN AND 2 FROM t", "SELECT k BETWEEN 1 AND FROM t", "SELECT k BETWEEN 1 2 FROM t",
            "SELECT k FROM t WHERE k BETWEEN", "SELECT k IN (1 FROM t", "SELECT k IN (,1) FROM t", "SELECT k IN (1,) FROM t",
            "SELECT (k FROM t", "SELECT k) FROM t", "SELECT k = FROM t", "SELECT = k FROM t", "SELECT k IS FROM t",
            "SELECT k IS NOT FROM t", "SELECT NOT FROM t", "SELECT - FROM t", "SELECT " + in("-", 21, "", "") + " FROM t",
            "SELECT " + in("NOT ", 21, "", "") + " FROM t", "SELECT k FROM t ORDER BY 1,", "SELECT k FROM t GROUP BY k,",
            "SELECT k FROM t GROUP BY k.", "SELECT .k FROM t", "SELECT k FROM t LIMIT 'a'", "SELECT k FROM , t", "SELECT k FROM t t t",
            "LOCK SHARE", "LOCK t SHARE EXCLUSIVE", "LOCK t ROW UPDATE EXCLUSIVE", "LOCK t ACCESS ROW SHARE", "PREPARE p AS (SELECT k FROM t)",
            "EXECUTE p 1", "EXECUTE p (1 2)", "EXECUTE p (1),", "RELEASE a b", "ROLLBACK a", "ROLLBACK TO SAVEPOINT a", "BEGIN WORK"};
        for (int i = 0; i < texts.length; i++) {
            d = i % 50 == 49 ? desk("parts missing") : d;
            d.ask(0, texts[i], "42601 I");
        }
        // What was read wrong leaves nothing behind: aggregates are in items alone.
        d.ask(0, "SELECT k + FROM t", "42601 I");
        d.ask(0, "DELETE FROM t WHERE COUNT(*) = 1", "42601 I");
        d.ask(0, "UPDATE t SET k = MAX(k)", "42601 I");
        d.count(1, 1);
    }

    // "([ ] may be there, { } any number of times, also none)"
    private static void optionalParts() {
        Desk d = desk("optional parts");
        d.ask(0, "CREATE TABLE u (a INT)", "CREATE I");
        d.ask(0, "CREATE TABLE v (a INT NOT NULL UNIQUE, b TEXT UNIQUE, c BOOL NOT NULL)", "CREATE I");
        d.ask(0, "CREATE TABLE w ()", "42601 I");
        d.ask(0, "CREATE TABLE w (a INT UNIQUE NOT NULL)", "42601 I");
        d.ask(0, "CREATE TABLE w (a INT NULL)", "42601 I");
        d.ask(0, "INSERT INTO u VALUES (1)", "INSERT 1 I");
        d.ask(0, "INSERT INTO u VALUES", "42601 I");
        d.ask(0, "INSERT INTO u VALUES ()", "42601 I");
        d.ask(0, "UPDATE u SET a = 1", "UPDATE 1 I");
        d.ask(0, "UPDATE u SET", "42601 I");
        d.ask(0, "DELETE FROM u WHERE", "42601 I");
        d.ask(0, "SELECT a FROM u x", "i (1) SELECT 1 I");
        d.ask(0, "SELECT a FROM u x y", "42601 I");
        d.ask(0, "SELECT a FROM u GROUP BY", "42601 I");
        d.ask(0, "SELECT a FROM u ORDER BY", "42601 I");
        d.ask(0, "SELECT a FROM u ORDER BY 1 DESC DESC", "42601 I");
        d.ask(0, "SELECT a FROM u WHERE TRUE GROUP BY a ORDER BY 1 DESC LIMIT 1", "i (1) SELECT 1 I");
        d.ask(0, "SELECT a FROM u WHERE TRUE ORDER BY 1 DESC LIMIT 1 FOR SHARE", "i (1) SELECT 1 I");
        d.ask(0, "SELECT a FROM u FOR SHARE FOR SHARE", "42601 I");
        d.ask(0, "PREPARE p AS DELETE FROM u WHERE FALSE", "PREPARE I");
        d.ask(0, "EXECUTE p", "DELETE 0 I");
        d.ask(0, "EXECUTE p ()", "42601 I");
    }

    // "What holds a place of E is at most 20 deep (else it is no statement): each ( ) around it"
    private static void depthOfBrackets() {
        Desk d = desk("brackets");
        d.ask(0, "SELECT " + in("(", 20, "k", ")") + " FROM t", "i (1) SELECT 1 I");
        d.ask(0, "SELECT " + in("(", 21, "k", ")") + " FROM t", "42601 I");
        d.ask(0, "SELECT " + in("(", 20, "NULL", ")") + " FROM t", "t (~) SELECT 1 I");
        d.ask(0, "SELECT k FROM t WHERE " + in("(", 20, "TRUE", ")"), "i (1) SELECT 1 I");
        d.ask(0, "SELECT k FROM t WHERE " + in("(", 21, "TRUE", ")"), "42601 I");
        d.ask(0, "UPDATE t SET k = " + in("(", 20, "1", ")"), "UPDATE 1 I");
        d.ask(0, "UPDATE t SET k = " + in("(", 21, "1", ")"), "42601 I");
        d.ask(0, "SELECT " + in("(", 200, "k", ")") + " FROM t", "42601 I");
        d.ask(0, in("(", 900, "k", ")"), "42601 I");
        d.ask(0, "SELECT " + in("(", 900, "k", ")") + " FROM t", "42601 I");
    }

    // "each NOT and - before it"
    private static void depthOfSigns() {
        Desk d = desk("NOT and -");
        d.ask(0, "SELECT " + in("-", 20, "k", "") + " FROM t", "i (1) SELECT 1 I");
        d.ask(0, "SELECT " + in("-", 21, "k", "") + " FROM t", "42601 I");
        d.ask(0, "SELECT " + in("NOT ", 20, "b", "") + " FROM t", "b (t) SELECT 1 I");
        d.ask(0, "SELECT " + in("NOT ", 21, "b", "") + " FROM t", "42601 I");
        d.ask(0, "SELECT " + in("NOT (", 10, "b", ")") + " FROM t", "b (t) SELECT 1 I");
        d.ask(0, "SELECT NOT " + in("NOT (", 10, "b", ")") + " FROM t", "42601 I");
        d.ask(0, "SELECT " + in("-(", 10, "k", ")") + " FROM t", "i (1) SELECT 1 I");
        d.ask(0, "SELECT -" + in("-(", 10, "k", ")") + " FROM t", "42601 I");
        // NOT is before both sides of a comparison, - before the first operand alone.
        d.ask(0, "SELECT NOT k = " + in("(", 19, "k", ")") + " FROM t", "b (f) SELECT 1 I");
        d.ask(0, "SELECT NOT k = " + in("(", 20, "k", ")") + " FROM t", "42601 I");
        d.ask(0, "SELECT -k + " + in("(", 20, "k", ")") + " FROM t", "i (0) SELECT 1 I");
        d.ask(0, "SELECT NOT b AND " + in("(", 20, "b", ")") + " FROM t", "b (f) SELECT 1 I");
    }

    // "(those of COUNT, SUM, MIN, MAX, IN too, not those of a row or of EXECUTE)"
    private static void depthOfLists() {
        Desk d = desk("the ( ) of others");
        for (String f : new String[] {"COUNT", "SUM", "MIN", "MAX"}) {
            d.ask(0, "SELECT " + f + in("(", 20, "k", ")") + " FROM t", "i (1) SELECT 1 I");
            d.ask(0, "SELECT " + f + in("(", 21, "k", ")") + " FROM t", "42601 I");
        }
        d.ask(0, "SELECT " + in("(", 20, "COUNT(*)", ")") + " FROM t", "i (1) SELECT 1 I");
        d.ask(0, "SELECT " + in("(", 21, "COUNT(*)", ")") + " FROM t", "42601 I");
        d.ask(0, "SELECT k IN " + in("(", 20, "k", ")") + " FROM t", "b (t) SELECT 1 I");
        d.ask(0, "SELECT k IN " + in("(", 21, "k", ")") + " FROM t", "42601 I");
        d.ask(0, "SELECT " + in("(", 20, "k", ")") + " IN (1) FROM t", "b (t) SELECT 1 I");
        d.ask(0, "SELECT k NOT IN " + in("(", 20, "k", ")") + " FROM t", "b (f) SELECT 1 I");
        d.ask(0, "SELECT k IN (1, " + in("(", 19, "k", ")") + ") FROM t", "b (t) SELECT 1 I");
        d.ask(0, "SELECT k IN (1, " + in("(", 20, "k", ")") + ") FROM t", "42601 I");
        d.ask(0, "SELECT k BETWEEN " + in("(", 20, "1", ")") + " AND " + in("(", 20, "1", ")") + " FROM t",
            "b (t) SELECT 1 I");
        d.ask(0, "SELECT k BETWEEN 1 AND " + in("(", 21, "1", ")") + " FROM t", "42601 I");
        d.ask(0, "INSERT INTO t VALUES (" + in("(", 20, "7", ")") + ", '', TRUE)", "INSERT 1 I");
        d.ask(0, "INSERT INTO t VALUES (" + in("(", 21, "7", ")") + ", '', TRUE)", "42601 I");
        d.ask(0, "PREPARE p AS SELECT k FROM t WHERE k = $1", "PREPARE I");
        d.ask(0, "EXECUTE p (" + in("(", 20, "7", ")") + ")", "i (7) SELECT 1 I");
        d.ask(0, "EXECUTE p (" + in("(", 21, "7", ")") + ")", "42601 I");
        d.ask(0, "EXECUTE p (" + in("-", 20, "7", "") + ")", "i (7) SELECT 1 I");
        d.ask(0, "EXECUTE p (" + in("-", 21, "7", "") + ")", "42601 I");
    }

    private static void depthBeside() {
        Desk d = desk("what stands beside");
        String twenty = in("(", 20, "k", ")");
        d.ask(0, "SELECT " + twenty + "+" + twenty + "*" + twenty + ", " + twenty + " = " + twenty + " FROM t",
            "ib (2,t) SELECT 1 I");
        d.ask(0, "SELECT " + in("(", 20, "k+k*k-k", ")") + " FROM t", "i (1) SELECT 1 I");
        // All operators at each depth: as deep as reading can go.
        String e = "k";
        for (int i = 0; i < 20; i++) {
            e = "(b OR b AND 's' || 's' = 's' || 's' AND 1 < 1 + 1 * " + (i == 0 ? e : "1") + (i == 0 ? "" : " OR " + e) + ")";
        }
        d.ask(0, "SELECT k FROM t WHERE " + e, "54001 I");
        d.ask(0, "SELECT k FROM t WHERE (" + e + ")", "42601 I");
    }

    // "54001 more than 200 nodes": "what stands in E as an operand, or works on operands"
    private static void nodesOfOperators() {
        Desk d = desk("200 nodes");
        d.ask(0, "SELECT " + sum(199) + " FROM t", "i (100) SELECT 1 I");
        d.ask(0, "SELECT " + sum(199) + ", 1 FROM t", "ii (100,1) SELECT 1 I");
        d.ask(0, "SELECT " + sum(199) + ", 1, 1 FROM t", "54001 I");
        d.ask(0, "SELECT " + sum(201) + " FROM t", "54001 I");
        // Brackets and DISTINCT are none; - and NOT are one each, IS NOT NULL one behind its operand.
        d.ask(0, "SELECT DISTINCT ((" + sum(199) + ")), (1) FROM t LIMIT 1", "ii (100,1) SELECT 1 I");
        d.ask(0, "SELECT -" + sum(199) + " FROM t", "i (98) SELECT 1 I");
        d.ask(0, "SELECT --" + sum(199) + " FROM t", "54001 I");
        d.ask(0, "SELECT " + sum(199) + " IS NOT NULL FROM t", "b (t) SELECT 1 I");
        d.ask(0, "SELECT -" + sum(199) + " IS NOT NULL FROM t", "54001 I");
        d.ask(0, "SELECT -" + sum(197) + " IS NOT NULL, 1 FROM t", "bi (t,1) SELECT 1 I");
        d.ask(0, "SELECT -" + sum(197) + " IS NULL, 1 FROM t", "bi (f,1) SELECT 1 I");
        d.ask(0, "SELECT COUNT(*), " + sum(199) + " FROM t", "ii (1,100) SELECT 1 I");
        d.ask(0, "SELECT COUNT(*), -" + sum(199) + " FROM t", "54001 I");
        d.ask(0, "SELECT COUNT(" + sum(199) + ") FROM t", "i (1) SELECT 1 I");
        d.ask(0, "SELECT COUNT(-" + sum(199) + ") FROM t", "54001 I");
        d.ask(0, "SELECT t.k + " + sum(197) + " FROM t", "i (100) SELECT 1 I");
        // All E of a statement together.
        d.ask(0, "SELECT " + sum(99) + " FROM t WHERE 1 < " + sum(97), "i (50) SELECT 1 I");
        d.ask(0, "SELECT --" + sum(99) + " FROM t WHERE 1 < " + sum(97) + " ORDER BY 1 LIMIT 1", "i (50) SELECT 1 I");
        d.ask(0, "SELECT ---" + sum(99) + " FROM t WHERE 1 < " + sum(97), "54001 I");
        d.ask(0, "UPDATE t SET k = --" + sum(99) + " WHERE 1 < " + sum(97), "UPDATE 1 I");
        d.ask(0, "UPDATE t SET k = ---" + sum(99) + " WHERE 1 < " + sum(97), "54001 I");
        d.ask(0, "DELETE FROM t WHERE 1 < --" + sum(197), "54001 I");
        d.ask(0, "DELETE FROM t WHERE 1 < -" + sum(197), "DELETE 1 I");
        d.ask(0, "PREPARE p AS SELECT $1 + " + sum(197) + " FROM t", "PREPARE I");
        d.ask(0, "PREPARE q AS SELECT -$1 + " + sum(197) + ", 1 FROM t", "54001 I");
    }

    // "x BETWEEN a AND b is x, a, >=, x again (its nodes anew), b, <=, AND"
    private static void nodesOfBetween() {
        Desk d = desk("nodes of BETWEEN");
        // 2 x + 5 with x of 97 nodes is 199.
        d.ask(0, "SELECT " + sum(97) + " BETWEEN 1 AND 99 FROM t", "b (t) SELECT 1 I");
        d.ask(0, "SELECT " + sum(97) + " BETWEEN 1 AND 99, 1 FROM t", "bi (t,1) SELECT 1 I");
        d.ask(0, "SELECT " + sum(97) + " BETWEEN 1 AND 99, 1, 1 FROM t", "54001 I");
        d.ask(0, "SELECT " + sum(97) + " NOT BETWEEN 1 AND 99 FROM t", "b (f) SELECT 1 I");
        d.ask(0, "SELECT " + sum(97) + " NOT BETWEEN 1 AND 99, 1 FROM t", "54001 I");
        d.ask(0, "SELECT -" + sum(97) + " BETWEEN 1 AND 99 FROM t", "54001 I");
        d.ask(0, "SELECT 1 BETWEEN -" + sum(97) + " AND " + sum(95) + " FROM t", "b (f) SELECT 1 I");
        d.ask(0, "SELECT 1 BETWEEN --" + sum(97) + " AND " + sum(95) + ", 1, 1 FROM t", "54001 I");
    }

    // "x IN (a, b, ..) is x, a, =, x again, b, =, OR, ..; with NOT there is NOT behind that"
    private static void nodesOfIn() {
        Desk d = desk("nodes of IN");
        d.ask(0, "SELECT k IN (1" + Desk.repeat(",1", 49) + "), 1 FROM t", "bi (t,1) SELECT 1 I");
        d.ask(0, "SELECT k IN (1" + Desk.repeat(",1", 49) + "), 1, 1 FROM t", "54001 I");
        d.ask(0, "SELECT k NOT IN (1" + Desk.repeat(",1", 49) + ") FROM t", "b (f) SELECT 1 I");
        d.ask(0, "SELECT k NOT IN (1" + Desk.repeat(",1", 49) + "), 1 FROM t", "54001 I");
        d.ask(0, "SELECT k IN (1" + Desk.repeat(",1", 50) + ") FROM t", "54001 I");
        d.ask(0, "SELECT k IN (" + sum(197) + "), 1 FROM t", "bi (f,1) SELECT 1 I");
        d.ask(0, "SELECT k IN (" + sum(197) + "), 1, 1 FROM t", "54001 I");
        // x of 95 twice, two values, two =, and OR: 195.
        d.ask(0, "SELECT " + sum(95) + " IN (1, 48), 1, 1, 1, 1, 1 FROM t", "biiiii (t,1,1,1,1,1) SELECT 1 I");
        d.ask(0, "SELECT " + sum(95) + " IN (1, 48), 1, 1, 1, 1, 1, 1 FROM t", "54001 I");
    }

    // "places of GROUP BY, too"
    private static void nodesOfGroups() {
        Desk d = desk("nodes of GROUP BY");
        d.ask(0, "SELECT " + sum(195) + ", 1 FROM t GROUP BY k, s, b, k", "ii (98,1) SELECT 1 I");
        d.ask(0, "SELECT " + sum(195) + ", 1, 1 FROM t GROUP BY k, s, b, k", "54001 I");
        d.ask(0, "SELECT " + sum(199) + " FROM t GROUP BY t.k", "i (100) SELECT 1 I");
        d.ask(0, "SELECT " + sum(199) + " FROM t GROUP BY t.k, t.k", "54001 I");
    }

    private static void nodesOfRows() {
        Desk d = desk("nodes of rows");
        d.ask(0, "CREATE TABLE n (k INT)", "CREATE I");
        d.ask(0, "INSERT INTO n VALUES (1)" + Desk.repeat(",(1)", 199), "INSERT 200 I");
        d.ask(0, "INSERT INTO n VALUES (1)" + Desk.repeat(",(1)", 200), "54001 I");
        d.ask(0, "INSERT INTO n VALUES (1)" + Desk.repeat(",(1)", 300), "54001 I");
        d.ask(0, "INSERT INTO n VALUES (-1)" + Desk.repeat(",(1)", 199), "54001 I");
        d.count(1, 201);
    }

    // "without those of *" ... "54001 if with its nodes there are more than 200"
    private static void nodesOfStar() {
        Desk d = desk("nodes of *");
        d.ask(0, "SELECT * FROM t WHERE 1 < -" + sum(193) + " AND TRUE", "54001 I");
        d.ask(0, "SELECT * FROM t WHERE 1 < -" + sum(193), "itb (1,a,t) SELECT 1 I");
        d.ask(0, "SELECT * FROM t WHERE 1 < " + sum(195), "itb (1,a,t) SELECT 1 I");
        d.ask(0, "SELECT * FROM t WHERE 1 < -" + sum(195), "54001 I");
        // It is found thirdly: behind 42703 and 42804, ahead of what is found at last.
        d.ask(0, "SELECT * FROM t WHERE x < -" + sum(195), "42703 I");
        d.ask(0, "SELECT * FROM t WHERE 's' < -" + sum(195), "42804 I");
        d.ask(0, "SELECT * FROM t WHERE 1 < -" + sum(195) + " ORDER BY 9", "54001 I");
        d.ask(0, "SELECT * FROM t WHERE 1 < " + sum(195) + " GROUP BY k", "54001 I");
        d.ask(0, "SELECT * FROM t WHERE 1 < -" + sum(193) + " GROUP BY k", "42803 I");
        d.ask(0, "SELECT * FROM nosuch WHERE 1 < -" + sum(195), "42P01 I");
        // 200 without it are read as any others.
        d.ask(0, "SELECT * FROM nosuch WHERE 1 < -" + sum(197), "42P01 I");
        d.ask(0, "SELECT * FROM nosuch WHERE 1 < --" + sum(197), "54001 I");
        d.ask(0, "INSERT INTO t SELECT * FROM t WHERE 1 < -" + sum(195), "54001 I");
        d.ask(0, "INSERT INTO t SELECT * FROM t WHERE 1 < " + sum(195), "INSERT 1 I");
    }

    // "of EXECUTE its own, and then its statement's"
    private static void nodesOfExecute() {
        Desk d = desk("nodes of EXECUTE");
        d.ask(0, "PREPARE p AS SELECT $1 + " + sum(197) + " FROM t", "PREPARE I");
        d.ask(0, "EXECUTE p (" + sum(199) + ")", "i (199) SELECT 1 I");
        d.ask(0, "EXECUTE p (-" + sum(199) + ")", "i (197) SELECT 1 I");
        d.ask(0, "EXECUTE p (--" + sum(199) + ")", "54001 I");
        d.ask(0, "EXECUTE nosuch (--" + sum(199) + ")", "54001 I");
        d.ask(0, "EXECUTE nosuch (-" + sum(199) + ")", "26000 I");
        // Its statement's * stands for more columns than when it was prepared.
        d.ask(0, "CREATE TABLE n (a INT)", "CREATE I");
        d.ask(0, "PREPARE q AS SELECT * FROM n WHERE 1 < " + sum(197), "PREPARE I");
        d.ask(0, "EXECUTE q", "i SELECT 0 I");
        d.ask(0, "DROP TABLE n", "DROP I");
        d.ask(0, "CREATE TABLE n (a INT, b INT)", "CREATE I");
        d.ask(0, "EXECUTE q", "54001 I");
    }

    // "54011 more than 3 tables of a query"
    private static void tablesOfAQuery() {
        Desk d = desk("tables of a query");
        d.ask(0, "SELECT a.k FROM t a, t b, t c", "i (1) SELECT 1 I");
        d.ask(0, "SELECT a.k FROM t a, t b, t c, t e", "54011 I");
        d.ask(0, "SELECT a.k FROM t a, t b, t c, t e, t f, t g", "54011 I");
        d.ask(0, "INSERT INTO t SELECT a.k, b.s, c.b FROM t a, t b, t c", "INSERT 1 I");
        d.ask(0, "INSERT INTO t SELECT a.k, b.s, c.b FROM t a, t b, t c, t e", "54011 I");
        d.ask(0, "PREPARE p AS SELECT a.k FROM t a, t b, t c, t e", "54011 I");
    }

    // "8 items (by E)"
    private static void itemsOfAQuery() {
        Desk d = desk("items of a query");
        d.ask(0, "SELECT 1,2,3,4,5,6,7,8 FROM t", "iiiiiiii (1,2,3,4,5,6,7,8) SELECT 1 I");
        d.ask(0, "SELECT 1,2,3,4,5,6,7,8,9 FROM t", "54011 I");
        d.ask(0, "INSERT INTO t SELECT 1,2,3,4,5,6,7,8,9 FROM t", "54011 I");
        // Rows and values are no items.
        d.ask(0, "INSERT INTO t VALUES (1,'a',TRUE,4,5,6,7,8,9)", "42601 I");
        d.ask(0, "PREPARE p AS SELECT k FROM t WHERE k = $9", "PREPARE I");
        d.ask(0, "EXECUTE p (1,2,3,4,5,6,7,8,1)", "i (1) SELECT 1 I");
        d.ask(0, "EXECUTE p (1,2,3,4,5,6,7,8,9,10,11,12)", "42601 I");
    }

    // "4 groups, 4 orders"
    private static void groupsAndOrders() {
        Desk d = desk("groups and orders");
        d.ask(0, "SELECT k FROM t GROUP BY k, s, b, k", "i (1) SELECT 1 I");
        d.ask(0, "SELECT k FROM t GROUP BY k, s, b, k, s", "54011 I");
        d.ask(0, "SELECT k FROM t ORDER BY 1, 1 DESC, 1, 1 DESC", "i (1) SELECT 1 I");
        d.ask(0, "SELECT k FROM t ORDER BY 1, 1 DESC, 1, 1 DESC, 1", "54011 I");
        d.ask(0, "SELECT k FROM t ORDER BY 1, 1, 1, 1, 99", "54011 I");
    }

    // "or 8 columns in CREATE TABLE"
    private static void columnsOfATable() {
        Desk d = desk("columns of a table");
        d.ask(0, "CREATE TABLE w " + COLUMNS8, "CREATE I");
        d.ask(0, "CREATE TABLE x " + COLUMNS8.replace(")", ", i INT)"), "54011 I");
        d.ask(0, "CREATE TABLE w " + COLUMNS8.replace(")", ", h INT)"), "54011 I");
        d.ask(0, "INSERT INTO w VALUES (1,2,3,4,5,6,7,8)", "INSERT 1 I");
        d.ask(0, "SELECT * FROM w", "iiiiiiii (1,2,3,4,5,6,7,8) SELECT 1 I");
        d.ask(0, "SELECT h, a FROM w", "ii (8,1) SELECT 1 I");
        d.count(5, 2);
    }

    // "or SET"
    private static void columnsOfSet() {
        Desk d = desk("columns of SET");
        d.ask(0, "CREATE TABLE w " + COLUMNS8, "CREATE I");
        d.ask(0, "INSERT INTO w VALUES (1,2,3,4,5,6,7,8)", "INSERT 1 I");
        d.ask(0, "UPDATE w SET h=a, g=b, f=c, e=d, d=e, c=f, b=g, a=h", "UPDATE 1 I");
        d.ask(0, "SELECT * FROM w", "iiiiiiii (8,7,6,5,4,3,2,1) SELECT 1 I");
        d.ask(0, "UPDATE w SET h=a, g=b, f=c, e=d, d=e, c=f, b=g, a=h, a=h", "54011 I");
        d.ask(0, "UPDATE w SET a=1, a=1, a=1, a=1, a=1, a=1, a=1, a=1", "42601 I");
    }

    // "ERRORS of reading, the first of these that is so: 42601 ... 54001 ... 54011 ... WHEN ... MEANING"
    private static void orderOfReading() {
        Desk d = desk("the order of errors");
        String items9 = "SELECT 1,2,3,4,5,6,7,8,";
        d.ask(0, items9 + "--" + sum(199) + " FROM nosuch LIMIT", "42601 I");
        d.ask(0, items9 + "--" + sum(199) + " FROM nosuch", "54001 I");
        d.ask(0, items9 + "9 FROM nosuch", "54011 I");
        d.ask(0, "BEGIN", "BEGIN T");
        d.ask(0, "CREATE TABLE t " + COLUMNS8.replace(")", ", h INT)"), "54011 F");
        d.ask(0, items9 + "9 FROM nosuch", "54011 F");
        d.ask(0, "SELECT " + sum(201) + " FROM nosuch", "54001 F");
        d.ask(0, "SELECT", "42601 F");
        d.ask(0, "SELECT k FROM nosuch", "25P02 F");
        d.ask(0, "ROLLBACK", "ROLLBACK I");
        d.ask(0, "LOCK nosuch SHARE", "25P01 I");
        d.ask(0, "SELECT x + 's' FROM nosuch ORDER BY 2", "42P01 I");
        d.ask(0, "SELECT x + 's' FROM t ORDER BY 2", "42703 I");
        d.ask(0, "SELECT k + 's' FROM t ORDER BY 2", "42804 I");
        d.ask(0, "SELECT COUNT(*), k FROM t ORDER BY 3 FOR UPDATE", "42601 I");
        d.ask(0, "SELECT COUNT(*), k FROM t FOR UPDATE", "42803 I");
        d.ask(0, "SELECT COUNT(*) FROM t FOR UPDATE", "0A000 I");
    }

    // "Thirdly 54011 if * stands for more than 8 columns"
    private static void starOfEight() {
        Desk d = desk("* of 8 columns");
        d.ask(0, "CREATE TABLE w (a INT, c INT, d INT, e INT, f INT)", "CREATE I");
        d.ask(0, "CREATE TABLE x (g INT, h INT, i INT, j INT, l INT, m INT)", "CREATE I");
        d.ask(0, "SELECT * FROM t, w", "itbiiiii SELECT 0 I");
        d.ask(0, "SELECT * FROM t, x", "54011 I");
        d.ask(0, "SELECT * FROM t a, t c, t e", "54011 I");
        d.ask(0, "SELECT * FROM t, x WHERE y", "42703 I");
        d.ask(0, "SELECT * FROM t, x WHERE 1", "42804 I");
        d.ask(0, "SELECT * FROM t, x ORDER BY 10", "54011 I");
        d.ask(0, "SELECT * FROM t, x GROUP BY k", "54011 I");
        d.ask(0, "INSERT INTO t SELECT * FROM t, x", "54011 I");
        // A value that does not fit is found secondly.
        d.ask(0, "INSERT INTO w SELECT * FROM t, x", "42804 I");
    }

    // "a number of ORDER BY is no item (1 is the first)"
    private static void ordersOfItems() {
        Desk d = desk("numbers of ORDER BY");
        d.ask(0, "SELECT k, s FROM t ORDER BY 1, 2", "it (1,a) SELECT 1 I");
        d.ask(0, "SELECT k, s FROM t ORDER BY 0", "42601 I");
        d.ask(0, "SELECT k, s FROM t ORDER BY 3", "42601 I");
        d.ask(0, "SELECT k, s FROM t ORDER BY 3 DESC", "42601 I");
        d.ask(0, "SELECT k, s FROM t ORDER BY 0 DESC", "42601 I");
        d.ask(0, "SELECT k, s FROM t ORDER BY 1, 999999999999999999", "42601 I");
        d.ask(0, "SELECT * FROM t ORDER BY 3", "itb (1,a,t) SELECT 1 I");
        d.ask(0, "SELECT * FROM t ORDER BY 4", "42601 I");
        // 2 to the 32nd and 1: no number of an item, though its lower half is.
        d.ask(0, "SELECT k FROM t ORDER BY 4294967297", "42601 I");
    }

    // "42601 if a row has not as many values as the table has columns (or the items of a query in INSERT)"
    private static void valuesOfRows() {
        Desk d = desk("values of rows");
        d.ask(0, "INSERT INTO t VALUES (1, 'a')", "42601 I");
        d.ask(0, "INSERT INTO t VALUES (1, 'a', TRUE, 1)", "42601 I");
        d.ask(0, "INSERT INTO t VALUES (1, 'a', TRUE), (1, 'a')", "42601 I");
        d.ask(0, "INSERT INTO t VALUES (1, 'a'), (1, 'a', TRUE, 2)", "42601 I");
        d.ask(0, "INSERT INTO t VALUES (1, 'a', TRUE, 2), (1, 'a')", "42601 I");
        d.ask(0, "INSERT INTO t SELECT k, s FROM t", "42601 I");
        d.ask(0, "INSERT INTO t SELECT k, s, b, k FROM t", "42601 I");
        d.ask(0, "INSERT INTO t SELECT * FROM t, t u", "42601 I");
        d.count(1, 1);
        d.ask(0, "INSERT INTO t VALUES (2, 'a', TRUE), (3, 'a', TRUE)", "INSERT 2 I");
    }

    // "a column is set twice"
    private static void setTwice() {
        Desk d = desk("set twice");
        d.ask(0, "UPDATE t SET k = 1, s = 'a', k = 2", "42601 I");
        d.ask(0, "UPDATE t SET k = 1, k = 's'", "42804 I");
        d.ask(0, "UPDATE t SET k = 1, k = 2, x = 1", "42703 I");
        d.ask(0, "UPDATE t SET k = 1, s = 's', b = TRUE", "UPDATE 1 I");
    }

    // "a parameter is not in PREPARE"
    private static void parametersOutside() {
        Desk d = desk("parameters outside of PREPARE");
        for (String text : new String[] {"SELECT $1 FROM t", "SELECT k FROM t WHERE k = $1", "INSERT INTO t VALUES ($1, $2, $3)",
            "UPDATE t SET k = $1", "DELETE FROM t WHERE $1", "EXECUTE p ($1)"}) {
            d.ask(0, text, "42601 I");
        }
        d.ask(0, "SELECT $1 + x FROM t", "42703 I");
        d.ask(0, "SELECT $1 + 's' FROM t", "42804 I");
    }

    // "or two columns of CREATE TABLE have one name"
    private static void columnsTwice() {
        Desk d = desk("two columns of one name");
        d.ask(0, "CREATE TABLE w (a INT, b INT, a INT)", "42601 I");
        d.ask(0, "CREATE TABLE t (a INT, a INT)", "42601 I");
        d.ask(0, "CREATE TABLE " + "w (a INT, b INT, c INT, d INT, e INT, f INT, g INT, g INT)", "42601 I");
        d.count(5, 1);
    }

    // "42712 two tables of a query have one name (the second name counts, if there is one)"
    private static void sameTables() {
        Desk d = desk("one name");
        d.ask(0, "CREATE TABLE u (k INT)", "CREATE I");
        d.ask(0, "SELECT 1 FROM t, t", "42712 I");
        d.ask(0, "SELECT 1 FROM t, t a", "i (1) SELECT 1 I");
        d.ask(0, "SELECT 1 FROM t a, u, t a", "42712 I");
        d.ask(0, "SELECT 1 FROM t u, u t", "i SELECT 0 I");
        d.ask(0, "SELECT 1 FROM t u, u", "42712 I");
        d.ask(0, "SELECT 1 FROM t a, t a, nosuch", "42712 I");
        d.ask(0, "SELECT 1 FROM nosuch, t a, t a", "42P01 I");
        // What INSERT fills is no table of its query.
        d.ask(0, "INSERT INTO u SELECT k FROM u", "INSERT 0 I");
        d.ask(0, "INSERT INTO u SELECT t.k FROM t", "INSERT 1 I");
        d.ask(0, "INSERT INTO u SELECT u.k FROM t", "42P01 I");
    }

    // "42702 it is one of several of them"
    private static void severalColumns() {
        Desk d = desk("one of several");
        d.ask(0, "CREATE TABLE u (k INT, w INT)", "CREATE I");
        d.ask(0, "SELECT w, s FROM t, u", "it SELECT 0 I");
        d.ask(0, "SELECT k FROM t, u", "42702 I");
        d.ask(0, "SELECT t.k, u.k FROM t, u", "ii SELECT 0 I");
        d.ask(0, "SELECT s FROM t a, t c", "42702 I");
        d.ask(0, "SELECT a.s FROM t a, t c WHERE c.k = 1 GROUP BY s", "42702 I");
        d.ask(0, "SELECT x.k FROM t, u", "42P01 I");
        d.ask(0, "SELECT t.w FROM t, u", "42703 I");
        // Of three tables the third has none, and still it is one of several.
        d.ask(0, "CREATE TABLE v (z INT)", "CREATE I");
        d.ask(0, "SELECT k FROM t, u, v", "42702 I");
        d.ask(0, "SELECT k FROM v, t, u", "42702 I");
        d.ask(0, "SELECT k FROM v, t", "i SELECT 0 I");
        // A table in the place of another has its own columns alone.
        d.ask(0, "DROP TABLE u", "DROP I");
        d.ask(0, "CREATE TABLE u (k INT)", "CREATE I");
        d.ask(0, "SELECT w FROM u", "42703 I");
    }

    // "42P07 there is one of this name, 54023 there are 8 tables"
    private static void eightTables() {
        Desk d = Desk.with("eight tables", 1);
        for (int i = 1; i <= 8; i++) {
            d.ask(0, "CREATE TABLE t" + i + " (k INT)", "CREATE I");
        }
        d.count(5, 8);
        d.refused("a ninth", () -> { d.ask(0, "CREATE TABLE t9 (k INT)", "54023 I"); return true; }, true);
        d.ask(0, "CREATE TABLE t8 (k INT)", "42P07 I");
        d.ask(0, "SELECT k FROM t9", "42P01 I");
        d.ask(0, "DROP TABLE t4", "DROP I");
        d.ask(0, "CREATE TABLE t9 (k INT)", "CREATE I");
        d.ask(0, "CREATE TABLE t4 (k INT)", "54023 I");
        d.ask(0, "INSERT INTO t9 VALUES (1)", "INSERT 1 I");
        d.ask(0, "SELECT k FROM t8", "i SELECT 0 I");
        d.count(5, 8);
    }

    // "or there would be more than 8 indexes in all (each UNIQUE makes one, in the order of the columns)"
    private static void eightIndexes() {
        Desk d = Desk.with("eight indexes", 1);
        String all = COLUMNS8.replace("INT", "INT UNIQUE");
        d.ask(0, "CREATE TABLE t " + all, "CREATE I");
        d.count(6, 8);
        d.ask(0, "CREATE TABLE u (a INT UNIQUE)", "54023 I");
        d.ask(0, "CREATE TABLE t (a INT UNIQUE)", "42P07 I");
        d.count(5, 1);
        d.ask(0, "CREATE TABLE u (a INT)", "CREATE I");
        d.ask(0, "CREATE INDEX ON u (a)", "54023 I");
        d.ask(0, "DROP TABLE t", "DROP I");
        d.count(6, 0);
        d.ask(0, "CREATE INDEX ON u (a)", "CREATE I");
        d.ask(0, "CREATE TABLE v " + all, "54023 I");
        d.ask(0, "CREATE TABLE v " + all.replace("h INT UNIQUE", "h INT"), "CREATE I");
        d.count(6, 8);
        d.ask(0, "CREATE UNIQUE INDEX ON v (h)", "54023 I");
        // Each is looked at, the last one too.
        d.ask(0, "INSERT INTO v VALUES (1,1,1,1,1,1,1,1)", "INSERT 1 I");
        d.ask(0, "INSERT INTO v VALUES (2,2,2,2,2,2,1,1)", "23505 I");
        d.ask(0, "INSERT INTO v VALUES (1,2,2,2,2,2,2,1)", "23505 I");
        d.ask(0, "INSERT INTO v VALUES (2,2,2,2,2,2,2,1)", "INSERT 1 I");
        d.ask(0, "SELECT g FROM v WHERE g = 2", "i (2) SELECT 1 I");
        d.ask(0, "SELECT g FROM v WHERE h = 1 AND g > 0", "i (1) (2) SELECT 2 I");
        d.ask(0, "SELECT g FROM v WHERE h = 1", "i (1) (2) SELECT 2 I");
        d.ask(0, "UPDATE v SET g = g + 1 WHERE a < 2", "23505 I");
        d.ask(0, "DELETE FROM v WHERE h = 1", "DELETE 2 I");
    }

    // "CREATE INDEX 54023 there are 8 (looked at when it has its lock)"
    private static void eightIndexesBehindTheLock() {
        Desk d = Desk.with("eight indexes, looked at behind the lock", 3);
        d.ask(0, "CREATE TABLE t " + COLUMNS8.replace("INT", "INT UNIQUE").replace("h INT UNIQUE", "h INT"), "CREATE I");
        d.ask(0, "CREATE TABLE u (a INT)", "CREATE I");
        d.ask(0, "BEGIN", "BEGIN T");
        d.ask(0, "LOCK u ROW EXCLUSIVE", "LOCK T");
        d.ask(1, "CREATE INDEX ON u (a)", "waits");
        d.ask(2, "CREATE INDEX ON t (h)", "CREATE I");
        d.ask(0, "COMMIT", "COMMIT I");
        d.then(1, "54023 I");
        d.ask(0, "BEGIN", "BEGIN T");
        d.ask(0, "LOCK u ROW EXCLUSIVE", "LOCK T");
        d.ask(1, "CREATE INDEX ON u (a)", "waits");
        d.ask(2, "DROP TABLE t", "DROP I");
        d.ask(0, "COMMIT", "COMMIT I");
        d.then(1, "CREATE I");
        d.count(6, 1);
    }

    // The indexes of the other tables stay as they are.
    private static void indexesOfATableThatIsDropped() {
        Desk d = Desk.with("indexes of a table that is dropped", 1);
        d.ask(0, "CREATE TABLE a (x INT UNIQUE, y INT, z INT UNIQUE)", "CREATE I");
        d.ask(0, "CREATE TABLE b (x INT, y INT UNIQUE, z INT)", "CREATE I");
        d.ask(0, "CREATE INDEX ON b (z)", "CREATE I");
        d.ask(0, "CREATE TABLE c (x INT UNIQUE)", "CREATE I");
        d.ask(0, "DROP TABLE a", "DROP I");
        d.count(6, 3);
        d.ask(0, "INSERT INTO b VALUES (1, 1, 1), (1, 2, 1)", "INSERT 2 I");
        d.ask(0, "INSERT INTO b VALUES (9, 2, 9)", "23505 I");
        d.ask(0, "INSERT INTO c VALUES (1), (2)", "INSERT 2 I");
        d.ask(0, "INSERT INTO c VALUES (2)", "23505 I");
        d.ask(0, "CREATE TABLE a (x INT, y INT, z INT)", "CREATE I");
        d.ask(0, "INSERT INTO a VALUES (1, 1, 1), (1, 1, 1)", "INSERT 2 I");
        d.ask(0, "DROP TABLE b", "DROP I");
        d.count(6, 1);
        d.ask(0, "INSERT INTO c VALUES (1)", "23505 I");
    }

    // "PREPARE 42P05 the session has one of this name, 54023 it has 8."
    private static void eightPrepared() {
        Desk d = desk("eight prepared");
        for (int i = 1; i <= 8; i++) {
            d.ask(0, "PREPARE p" + i + " AS SELECT k + " + i + " FROM t", "PREPARE I");
            d.ask(0, "PREPARE p" + i + " AS SELECT k FROM t", "42P05 I");
        }
        d.ask(0, "PREPARE p9 AS SELECT k FROM t", "54023 I");
        d.ask(0, "PREPARE p1 AS SELECT k FROM t", "42P05 I");
        d.ask(0, "EXECUTE p9", "26000 I");
        d.ask(0, "EXECUTE p1", "i (2) SELECT 1 I");
        d.ask(0, "EXECUTE p8", "i (9) SELECT 1 I");
        // Each session has its own eight.
        d.ask(1, "PREPARE p9 AS SELECT k FROM t", "PREPARE I");
        d.ask(1, "EXECUTE p1", "26000 I");
        d.x.close(0);
        d.x.open(0);
        d.ask(0, "EXECUTE p1", "26000 I");
        d.ask(0, "PREPARE p9 AS SELECT k FROM t", "PREPARE I");
    }

    // "SAVEPOINT 54023 the transaction has 7."
    private static void sevenSavepoints() {
        Desk d = desk("seven savepoints");
        d.ask(0, "BEGIN", "BEGIN T");
        for (int i = 1; i <= 7; i++) {
            d.ask(0, "SAVEPOINT a", "SAVEPOINT T");
        }
        d.ask(0, "SAVEPOINT a", "54023 F");
        d.ask(0, "ROLLBACK TO a", "ROLLBACK T");
        d.ask(0, "SAVEPOINT a", "54023 F");
        d.ask(0, "ROLLBACK TO a", "ROLLBACK T");
        d.ask(0, "RELEASE a", "RELEASE T");
        d.ask(0, "SAVEPOINT b", "SAVEPOINT T");
        d.ask(0, "SELECT k FROM t FOR UPDATE", "i (1) SELECT 1 T");
        d.count(3, 9);
        d.ask(0, "COMMIT", "COMMIT I");
        d.ask(0, "BEGIN", "BEGIN T");
        d.ask(0, "SAVEPOINT a", "SAVEPOINT T");
        d.ask(0, "ROLLBACK", "ROLLBACK I");
    }

    // "3B001 no such savepoint (the latest of a name counts; RELEASE takes those behind it, too)"
    private static void noSuchSavepoint() {
        Desk d = desk("no such savepoint");
        d.ask(0, "BEGIN", "BEGIN T");
        d.ask(0, "SAVEPOINT a", "SAVEPOINT T");
        d.ask(0, "UPDATE t SET k = 2", "UPDATE 1 T");
        d.ask(0, "SAVEPOINT b", "SAVEPOINT T");
        d.ask(0, "SAVEPOINT a", "SAVEPOINT T");
        d.ask(0, "UPDATE t SET k = 3", "UPDATE 1 T");
        d.ask(0, "ROLLBACK TO a", "ROLLBACK T");
        d.ask(0, "SELECT k FROM t", "i (2) SELECT 1 T");
        d.ask(0, "RELEASE b", "RELEASE T");
        d.ask(0, "ROLLBACK TO b", "3B001 F");
        d.ask(0, "ROLLBACK TO c", "3B001 F");
        d.ask(0, "ROLLBACK TO a", "ROLLBACK T");
        d.ask(0, "SELECT k FROM t", "i (1) SELECT 1 T");
        d.ask(0, "RELEASE a", "RELEASE T");
        d.ask(0, "RELEASE a", "3B001 F");
        d.ask(0, "ROLLBACK TO a", "3B001 F");
        d.ask(0, "ROLLBACK", "ROLLBACK I");
    }

    // "26000 ..., 42601 another number of values than its highest parameter, 42804 an expression of another type"
    private static void valuesOfExecute() {
        Desk d = desk("values of EXECUTE");
        d.ask(0, "PREPARE p AS SELECT k FROM t WHERE k = $1 AND s = $3", "PREPARE I");
        d.ask(0, "EXECUTE p (1, 2)", "42601 I");
        d.ask(0, "EXECUTE p (1, 2, 'a', 4)", "42601 I");
        d.ask(0, "EXECUTE p", "42601 I");
        d.ask(0, "EXECUTE p (1, 2, 'a')", "i (1) SELECT 1 I");
        d.ask(0, "EXECUTE p (1, TRUE, 'a')", "i (1) SELECT 1 I");
        d.ask(0, "EXECUTE p (1, NULL, NULL)", "i SELECT 0 I");
        d.ask(0, "EXECUTE p ('a', 2, 'a')", "42804 I");
        d.ask(0, "EXECUTE p (1, 2, 3)", "42804 I");
        d.ask(0, "EXECUTE p (k, 2, 3)", "42703 I");
        d.ask(0, "EXECUTE q (1 + 's')", "42804 I");
        d.ask(0, "EXECUTE q ($1)", "42601 I");
        d.ask(0, "EXECUTE q (1)", "26000 I");
        d.ask(0, "PREPARE n AS SELECT k FROM t", "PREPARE I");
        d.ask(0, "EXECUTE n", "i (1) SELECT 1 I");
        d.ask(0, "EXECUTE n (NULL)", "42601 I");
        // Each session has its own values.
        d.ask(1, "PREPARE p AS SELECT s FROM t WHERE k = $1", "PREPARE I");
        d.ask(0, "EXECUTE p (7, 2, 'a')", "i SELECT 0 I");
        d.ask(1, "EXECUTE p (1)", "t (a) SELECT 1 I");
        d.ask(0, "EXECUTE p (1, 2, 'a')", "i (1) SELECT 1 I");
        d.ask(1, "EXECUTE p (2)", "t SELECT 0 I");
    }

    // "then its statement is read anew, with the errors of MEANING, ... and behind these errors 42804"
    private static void readAnew() {
        Desk d = desk("read anew");
        d.ask(0, "PREPARE p AS SELECT k FROM t WHERE k = $1", "PREPARE I");
        d.ask(0, "PREPARE q AS INSERT INTO t VALUES ($1, $2, $3)", "PREPARE I");
        d.ask(0, "PREPARE r AS SELECT * FROM t ORDER BY 3", "PREPARE I");
        d.ask(0, "PREPARE v AS SELECT k FROM t GROUP BY k", "PREPARE I");
        d.ask(0, "DROP TABLE t", "DROP I");
        d.ask(0, "EXECUTE p (1)", "42P01 I");
        d.ask(0, "CREATE TABLE t (k TEXT, x INT)", "CREATE I");
        d.ask(0, "EXECUTE p ('a')", "42804 I");
        d.ask(0, "EXECUTE p (1)", "42804 I");
        d.ask(0, "EXECUTE p (NULL)", "t SELECT 0 I");
        d.ask(0, "EXECUTE q (NULL, NULL, TRUE)", "42601 I");
        d.ask(0, "EXECUTE r", "42601 I");
        d.ask(0, "EXECUTE v", "t SELECT 0 I");
        d.ask(0, "DROP TABLE t", "DROP I");
        d.ask(0, "CREATE TABLE t (x INT)", "CREATE I");
        d.ask(0, "EXECUTE p (1)", "42703 I");
        d.ask(0, "DROP TABLE t", "DROP I");
        d.ask(0, "CREATE TABLE t (k INT, s TEXT, b BOOL)", "CREATE I");
        d.ask(0, "EXECUTE q (5, 's', TRUE)", "INSERT 1 I");
        d.ask(0, "EXECUTE p (5)", "i (5) SELECT 1 I");
    }

    // "behind these errors 42804, if a value is of another type than its parameter has now"; "NULL is a value of each type"
    private static void nullsOfExecute() {
        Desk d = desk("NULLs of EXECUTE");
        d.ask(0, "PREPARE p AS SELECT k FROM t WHERE k = $1", "PREPARE I");
        d.ask(0, "PREPARE q AS SELECT s FROM t WHERE s = $1", "PREPARE I");
        d.ask(0, "PREPARE r AS SELECT b FROM t WHERE b = $1", "PREPARE I");
        d.ask(0, "PREPARE v AS INSERT INTO t VALUES ($1, $2, $3)", "PREPARE I");
        d.ask(0, "PREPARE w AS SELECT k FROM t WHERE k = $1 OR s = $2", "PREPARE I");
        d.ask(0, "EXECUTE p (1 / 0)", "i SELECT 0 I");
        d.ask(0, "EXECUTE q (1 / 0)", "42804 I");
        d.ask(0, "DROP TABLE t", "DROP I");
        d.ask(0, "CREATE TABLE t (k TEXT, s BOOL, b INT)", "CREATE I");
        String[] integers = {"1 / 0", "1 % 0", "NULL + 1", "-(5 / 0)"};
        String[] texts = {"NULL || 'a'", "'a' || NULL"};
        String[] truths = {"NULL = 1", "NOT NULL", "NULL AND TRUE", "1 / 0 > 2", "NULL BETWEEN 1 AND 2", "1 IN (2, NULL)"};
        for (String e : integers) {
            d.ask(0, "EXECUTE p (" + e + ")", "t SELECT 0 I");
            d.ask(0, "EXECUTE q (" + e + ")", "42804 I");
        }
        for (String e : texts) {
            d.ask(0, "EXECUTE q (" + e + ")", "b SELECT 0 I");
            d.ask(0, "EXECUTE r (" + e + ")", "42804 I");
        }
        for (String e : truths) {
            d.ask(0, "EXECUTE r (" + e + ")", "i SELECT 0 I");
            d.ask(0, "EXECUTE p (" + e + ")", "42804 I");
        }
        // What is not NULL is of its type alone, also behind an EXECUTE with NULL.
        d.ask(0, "EXECUTE p (1 / 1)", "42804 I");
        d.ask(0, "EXECUTE q ('' || '')", "42804 I");
        d.ask(0, "EXECUTE r (NULL AND FALSE)", "42804 I");
        d.ask(0, "EXECUTE r (NULL IS NULL)", "42804 I");
        d.ask(0, "EXECUTE p ('a')", "42804 I");
        d.ask(0, "EXECUTE w (1 / 0, 's')", "42804 I");
        d.ask(0, "EXECUTE w (1, '' || NULL)", "42804 I");
        d.ask(0, "EXECUTE w (1 / 0, '' || NULL)", "t SELECT 0 I");
        d.ask(0, "EXECUTE v (1 / 0, '' || NULL, NULL = 1)", "INSERT 1 I");
        d.ask(0, "SELECT * FROM t", "tbi (~,~,~) SELECT 1 I");
    }

    // A value that is NULL is looked at like others behind the errors of reading.
    private static void nullsOfExecuteBehind() {
        Desk d = desk("NULLs of EXECUTE, behind");
        d.ask(0, "PREPARE p AS SELECT k FROM t WHERE k = $1", "PREPARE I");
        d.ask(0, "PREPARE q AS INSERT INTO t VALUES ($1, 's', $2)", "PREPARE I");
        d.ask(0, "PREPARE r AS SELECT $1, k FROM t WHERE k IS NULL", "PREPARE I");
        d.ask(0, "DROP TABLE t", "DROP I");
        d.ask(0, "EXECUTE p (1 / 0)", "42P01 I");
        d.ask(0, "CREATE TABLE t (x INT)", "CREATE I");
        d.ask(0, "EXECUTE p (1 / 0)", "42703 I");
        d.ask(0, "DROP TABLE t", "DROP I");
        d.ask(0, "CREATE TABLE t (k TEXT NOT NULL, s TEXT, b INT)", "CREATE I");
        d.ask(0, "EXECUTE q (1 / 0, NULL)", "23502 I");
        d.ask(0, "EXECUTE q (1 / 0, TRUE)", "42804 I");
        d.ask(0, "DROP TABLE t", "DROP I");
        d.ask(0, "CREATE TABLE t (k BOOL UNIQUE, s TEXT, b INT)", "CREATE I");
        d.ask(0, "EXECUTE q (1 / 0, NULL AND TRUE)", "INSERT 1 I");
        d.ask(0, "EXECUTE q (1 / 0, NULL)", "INSERT 1 I");
        d.ask(0, "SELECT * FROM t", "bti (~,s,~) (~,s,~) SELECT 2 I");
        d.ask(0, "EXECUTE r ('a' || NULL)", "tb (~,~) (~,~) SELECT 2 I");
        d.ask(0, "BEGIN SERIALIZABLE", "BEGIN T");
        d.ask(0, "EXECUTE p (1 / 0)", "b SELECT 0 T");
        d.ask(0, "EXECUTE p (0)", "42804 F");
        d.ask(0, "ROLLBACK", "ROLLBACK I");
    }

    // "in FAILED all but ROLLBACK, ROLLBACK TO and COMMIT (...) are 25P02"
    private static void whenFailed() {
        Desk d = desk("when failed");
        String[] refused = {"BEGIN", "CREATE TABLE x (k INT)", "CREATE INDEX ON t (k)", "DROP TABLE t", "SELECT k FROM t",
            "INSERT INTO t VALUES (1, 'a', TRUE)", "UPDATE t SET k = 1", "DELETE FROM t", "SAVEPOINT a", "RELEASE a",
            "LOCK t SHARE", "PREPARE p AS SELECT k FROM t", "EXECUTE p", "VACUUM t", "CHECKPOINT"};
        d.ask(0, "BEGIN", "BEGIN T");
        d.ask(0, "SAVEPOINT a", "SAVEPOINT T");
        d.ask(0, "UPDATE t SET k = 5", "UPDATE 1 T");
        d.ask(0, "SELECT x FROM t", "42703 F");
        for (String text : refused) {
            d.ask(0, text, "25P02 F");
        }
        d.ask(0, "ROLLBACK TO a", "ROLLBACK T");
        d.ask(0, "SELECT k FROM t", "i (1) SELECT 1 T");
        d.ask(0, "SELECT x FROM t", "42703 F");
        // COMMIT does what ROLLBACK does then.
        d.ask(0, "COMMIT", "COMMIT I");
        d.count(4, 1);
        d.ask(0, "COMMIT", "25P01 I");
        d.ask(0, "BEGIN", "BEGIN T");
        d.ask(0, "SELECT x FROM t", "42703 F");
        d.ask(0, "ROLLBACK", "ROLLBACK I");
    }

    // "BEGIN, CREATE, DROP, VACUUM and CHECKPOINT in a transaction are 25001; COMMIT, ROLLBACK, ... without one 25P01"
    private static void whenIdle() {
        Desk d = desk("when idle, and when not");
        for (String text : new String[] {"COMMIT", "ROLLBACK", "SAVEPOINT a", "ROLLBACK TO a", "RELEASE a", "LOCK t SHARE",
            "LOCK nosuch SHARE"}) {
            d.ask(0, text, "25P01 I");
        }
        for (String text : new String[] {"BEGIN", "BEGIN SERIALIZABLE", "CREATE TABLE x (k INT)", "CREATE INDEX ON t (k)",
            "CREATE TABLE x (k INT, k INT)", "DROP TABLE nosuch", "VACUUM t", "CHECKPOINT"}) {
            d.ask(0, "BEGIN", "BEGIN T");
            d.ask(0, text, "25001 F");
            d.ask(0, "ROLLBACK", "ROLLBACK I");
        }
        d.count(5, 1);
    }
}
