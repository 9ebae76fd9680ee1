/** Promises 5 and 6: values, the rows of queries, answers and their limits. */
public final class QueryTest {
    public static void main(String[] args) {
        values();
        joins();
        groups();
        ordering();
        tooMuch();
        answers();
        writing();
        Desk.end("QueryTest");
    }

    private static void one(Desk d, String expression, String want) {
        d.ask(0, "SELECT " + expression + " FROM o", want + " SELECT 1 I");
    }

    private static void values() {
        Desk d = Desk.with("values", 1);
        d.ask(0, "CREATE TABLE o (n INT, m TEXT, c BOOL)", "CREATE I");
        d.ask(0, "INSERT INTO o VALUES (NULL, NULL, NULL)", "INSERT 1 I");
        one(d, "7 / 2, -7 / 2, 7 / -2, 7 % 2, -7 % 2, 7 % -2", "iiiiii (3,-3,-3,1,-1,1)");
        one(d, "1 / 0, 1 % 0, 1 + n, n * 0, -n", "iiiii (~,~,~,~,~)");
        one(d, "999999999999999999 * 10 + 7, 999999999999999999 * 100", "ii (-8446744073709551619,7766279631452241820)");
        // 2 to the 62nd and its double, which wraps.
        one(d, "(2147483648 * 2147483648) * 2, -((2147483648 * 2147483648) * 2)",
            "ii (-9223372036854775808,-9223372036854775808)");
        one(d, "((2147483648 * 2147483648) * 2) / -1, ((2147483648 * 2147483648) * 2) % -1",
            "ii (-9223372036854775808,0)");
        one(d, "((2147483648 * 2147483648) * 2) - 1, 0, -1", "iii (9223372036854775807,0,-1)");
        one(d, "'1234567890123456789012345' || 'abcdefghij', 'a' || '', '' || '', 'a' || m",
            "tttt (1234567890123456789012345abcdef,a,,~)");
        one(d, "'12345678' || '12345678' || '12345678' || '1234567' || 'x'", "t (1234567812345678123456781234567)");
        one(d, "'a' < 'b', 'a' < 'ab', 'ab' < 'b', '' < ' ', 'B' < 'a', 'a' = 'a '", "bbbbbb (t,t,t,t,t,f)");
        one(d, "'123456789' > '12345678', '1234567890123456' < '1234567890123457'", "bb (t,t)");
        one(d, "FALSE < TRUE, TRUE > FALSE, TRUE = TRUE, TRUE <> TRUE, FALSE >= TRUE", "bbbbb (t,t,t,f,f)");
        one(d, "-1 < 0, -5 > -4, 3 <= 3, 3 >= 4, 3 <> 4, 3 = 4", "bbbbbb (t,f,t,f,t,f)");
        one(d, "c AND FALSE, FALSE AND c, c AND TRUE, c OR TRUE, TRUE OR c, c OR FALSE, NOT c, c AND c",
            "bbbbbbbb (f,f,~,t,t,~,~,~)");
        one(d, "TRUE AND TRUE, TRUE AND FALSE, FALSE OR FALSE, FALSE OR TRUE, NOT TRUE, NOT FALSE",
            "bbbbbb (t,f,f,t,f,t)");
        one(d, "n IS NULL, n IS NOT NULL, 1 IS NULL, 1 IS NOT NULL, m IS NULL, c IS NULL", "bbbbbb (t,f,f,t,t,t)");
        one(d, "2 BETWEEN 1 AND 3, 1 BETWEEN 1 AND 1, 2 BETWEEN 3 AND 1, 2 NOT BETWEEN 3 AND 1", "bbbb (t,t,f,t)");
        one(d, "2 BETWEEN n AND 1, 2 BETWEEN n AND 3, 2 BETWEEN 3 AND n, n BETWEEN 1 AND 2", "bbbb (f,~,f,~)");
        one(d, "1 IN (1, n), 2 IN (1, n), 2 IN (1, 3), 2 NOT IN (1, n), 1 NOT IN (1, n), n IN (1), 3 NOT IN (4)",
            "bbbbbbb (t,~,f,~,f,~,t)");
        one(d, "n = n, n <> 1, m < 'a', c = TRUE", "bbbb (~,~,~,~)");
    }

    private static void joins() {
        Desk d = Desk.with("joins", 1);
        d.ask(0, "CREATE TABLE a (x INT, y TEXT)", "CREATE I");
        d.ask(0, "CREATE TABLE b (x INT, z INT)", "CREATE I");
        d.ask(0, "INSERT INTO a VALUES (3,'c'),(1,'b'),(NULL,'n'),(1,'a'),(2,NULL),(2,'z')", "INSERT 6 I");
        d.ask(0, "INSERT INTO b VALUES (2,20),(1,10),(1,5)", "INSERT 3 I");
        d.ask(0, "SELECT * FROM a", "it (1,a) (1,b) (2,z) (2,~) (3,c) (~,n) SELECT 6 I");
        d.ask(0, "SELECT a.x, y, z FROM a, b WHERE a.x = b.x",
            "iti (1,a,5) (1,a,10) (1,b,5) (1,b,10) (2,z,20) (2,~,20) SELECT 6 I");
        d.ask(0, "SELECT z, y FROM b, a WHERE a.x = b.x AND y IS NOT NULL",
            "it (5,a) (5,b) (10,a) (10,b) (20,z) SELECT 5 I");
        d.ask(0, "SELECT p.y, q.y, r.z FROM a p, a q, b r WHERE p.x = 3 AND q.x < p.x AND r.x = 2",
            "tti (c,a,20) (c,b,20) (c,z,20) (c,~,20) SELECT 4 I");
        d.ask(0, "SELECT y FROM a WHERE x <> 1", "t (z) (~) (c) SELECT 3 I");
        d.ask(0, "SELECT COUNT(*) FROM a, b", "i (18) SELECT 1 I");
        d.ask(0, "SELECT y FROM a WHERE FALSE", "t SELECT 0 I");
        d.ask(0, "SELECT y FROM a WHERE NULL", "t SELECT 0 I");
        // Like rows are in the order of their numbers: the one that is updated is the last.
        d.ask(0, "CREATE TABLE c (x INT)", "CREATE I");
        d.ask(0, "INSERT INTO c VALUES (1), (1), (1)", "INSERT 3 I");
        d.ask(0, "SELECT * FROM c LIMIT 2", "i (1) (1) SELECT 2 I");
    }

    private static void groups() {
        Desk d = Desk.with("groups", 1);
        d.ask(0, "CREATE TABLE g (k INT, s TEXT, b BOOL)", "CREATE I");
        d.ask(0, "SELECT COUNT(*), COUNT(k), SUM(k), MIN(k), MAX(s) FROM g", "iiiit (0,0,~,~,~) SELECT 1 I");
        d.ask(0, "SELECT COUNT(*) FROM g GROUP BY k", "i SELECT 0 I");
        d.ask(0, "INSERT INTO g VALUES (1,'a',TRUE),(2,'b',FALSE),(1,'c',NULL),(NULL,'d',TRUE),(NULL,NULL,TRUE)",
            "INSERT 5 I");
        d.ask(0, "SELECT COUNT(*), COUNT(k), COUNT(s), SUM(k), MIN(k), MAX(k), MIN(s), MAX(s) FROM g",
            "iiiiiitt (5,3,4,4,1,2,a,d) SELECT 1 I");
        d.ask(0, "SELECT k, COUNT(*), MIN(s), MAX(s) FROM g GROUP BY k",
            "iitt (1,2,a,c) (2,1,b,b) (~,2,d,d) SELECT 3 I");
        d.ask(0, "SELECT b, COUNT(*) FROM g GROUP BY b", "bi (t,3) (~,1) (f,1) SELECT 3 I");
        d.ask(0, "SELECT SUM(k) * 2 + COUNT(*), k FROM g GROUP BY k ORDER BY 2 DESC",
            "ii (~,~) (5,2) (6,1) SELECT 3 I");
        d.ask(0, "SELECT COUNT(b = TRUE), COUNT(k + 1), SUM(k + 1), MAX(-k) FROM g", "iiii (4,3,7,-1) SELECT 1 I");
        d.ask(0, "SELECT k, b FROM g GROUP BY k, b", "ib (1,t) (1,~) (2,f) (~,t) SELECT 4 I");
        d.ask(0, "SELECT COUNT(*), k IN (1, 2), k BETWEEN 1 AND 1 FROM g WHERE k > 0 GROUP BY k",
            "ibb (2,t,t) (1,t,f) SELECT 2 I");
        d.ask(0, "SELECT MAX(k) IN (1, 2), MIN(k) BETWEEN 0 AND SUM(k) FROM g", "bb (t,t) SELECT 1 I");
        d.ask(0, "SELECT COUNT(*) FROM g WHERE FALSE", "i (0) SELECT 1 I");
        d.ask(0, "SELECT 5, COUNT(*) FROM g WHERE FALSE GROUP BY k", "ii SELECT 0 I");
        d.ask(0, "SELECT COUNT(*) FROM g LIMIT 0", "i SELECT 0 I");
        d.ask(0, "SELECT SUM(999999999999999999 * 10) FROM g",
            "i (" + 999999999999999999L * 10 * 5 + ") SELECT 1 I");
    }

    private static void ordering() {
        Desk d = Desk.with("ordering", 1);
        d.ask(0, "CREATE TABLE g (k INT, s TEXT)", "CREATE I");
        d.ask(0, "INSERT INTO g VALUES (1,'x'),(2,'y'),(3,'x'),(4,NULL),(NULL,'y')", "INSERT 5 I");
        d.ask(0, "SELECT k, s FROM g ORDER BY 2", "it (1,x) (3,x) (2,y) (~,y) (4,~) SELECT 5 I");
        d.ask(0, "SELECT k, s FROM g ORDER BY 2 DESC", "it (4,~) (2,y) (~,y) (1,x) (3,x) SELECT 5 I");
        d.ask(0, "SELECT k, s FROM g ORDER BY 2, 1 DESC", "it (3,x) (1,x) (~,y) (2,y) (4,~) SELECT 5 I");
        d.ask(0, "SELECT -k FROM g ORDER BY 1", "i (-4) (-3) (-2) (-1) (~) SELECT 5 I");
        d.ask(0, "SELECT DISTINCT s FROM g", "t (x) (y) (~) SELECT 3 I");
        d.ask(0, "SELECT DISTINCT s, s FROM g ORDER BY 2 DESC LIMIT 2", "tt (~,~) (y,y) SELECT 2 I");
        d.ask(0, "SELECT DISTINCT k - k FROM g", "i (0) (~) SELECT 2 I");
        d.ask(0, "SELECT k FROM g ORDER BY 1 DESC LIMIT 2", "i (~) (4) SELECT 2 I");
        d.ask(0, "SELECT k FROM g LIMIT 0", "i SELECT 0 I");
        d.ask(0, "SELECT k FROM g LIMIT 999999999999999999", "i (1) (2) (3) (4) (~) SELECT 5 I");
        d.ask(0, "INSERT INTO g SELECT k + 10, s FROM g WHERE k IS NOT NULL ORDER BY 1 DESC LIMIT 2", "INSERT 2 I");
        d.ask(0, "SELECT k FROM g", "i (1) (2) (3) (4) (13) (14) (~) SELECT 7 I");
        d.ask(0, "SELECT DISTINCT COUNT(*) FROM g GROUP BY k", "i (1) SELECT 1 I");
    }

    private static void tooMuch() {
        Desk d = Desk.with("too much", 1);
        d.ask(0, "CREATE TABLE n (k INT UNIQUE, v INT)", "CREATE I");
        d.ask(0, "CREATE TABLE e (k INT)", "CREATE I");
        d.ask(0, "INSERT INTO n VALUES (0,0),(1,0),(2,0),(3,0),(4,0),(5,0),(6,0)", "INSERT 7 I");
        d.ask(0, "INSERT INTO n SELECT a.k * 7 + b.k + 7, 1 FROM n a, n b", "INSERT 49 I");
        // 56 now; 56 * 56 = 3136 rows are too many, as is 56 * 56 * 56.
        d.ask(0, "SELECT COUNT(*) FROM n a, n b", "54001 I");
        d.ask(0, "SELECT 1 FROM n a, n b LIMIT 1", "54001 I");
        d.ask(0, "SELECT COUNT(*) FROM n a, n b WHERE a.v = 0 AND b.v >= 0", "i (392) SELECT 1 I");
        d.ask(0, "SELECT COUNT(*) FROM n a, n b, n c WHERE a.v = b.v AND b.v = c.v AND a.k = c.k AND a.k = 3",
            "i (7) SELECT 1 I");
        d.ask(0, "SELECT COUNT(*) FROM n a, n b, n c WHERE a.v = 5", "54001 I");
        // With its path's range alone: 12 * 56 * 56 = 37632, and 13 * 56 * 56 = 40768.
        d.ask(0, "SELECT COUNT(*) FROM n a, n b, n c WHERE a.k < 12 AND a.v = 5", "i (0) SELECT 1 I");
        d.ask(0, "SELECT COUNT(*) FROM n a, n b, n c WHERE a.k < 13 AND a.v = 5", "54001 I");
        d.ask(0, "SELECT COUNT(*) FROM n a, n b, n c WHERE 13 > a.k AND a.v = 5", "54001 I");
        d.ask(0, "SELECT COUNT(*) FROM n a, n b, n c WHERE (a.k BETWEEN 1 AND 12) AND a.v = 5", "i (0) SELECT 1 I");
        d.ask(0, "SELECT COUNT(*) FROM n a, n b, n c WHERE a.k NOT BETWEEN 12 AND 99 AND a.v = 5", "54001 I");
        d.ask(0, "SELECT COUNT(*) FROM n a, n b, n c WHERE a.k IN (1, 2) AND a.v = 5", "54001 I");
        d.ask(0, "SELECT COUNT(*) FROM n a, n b, n c WHERE a.k IN (1) AND a.v = 5", "i (0) SELECT 1 I");
        d.ask(0, "SELECT COUNT(*) FROM n a, n b, n c WHERE a.k = 1 + 1 AND a.v = 5", "i (0) SELECT 1 I");
        d.ask(0, "SELECT COUNT(*) FROM n a, n b, n c WHERE a.k = b.k AND a.v = 5", "54001 I");
        d.ask(0, "SELECT COUNT(*) FROM n a, n b, n c WHERE NOT a.k <> 1 AND a.v = 5", "54001 I");
        d.ask(0, "SELECT COUNT(*) FROM n a, n b, n c WHERE a.k = 1 OR a.v = 5", "54001 I");
        d.ask(0, "SELECT COUNT(*) FROM n a, n b, n c WHERE a.k = NULL", "i (0) SELECT 1 I");
        d.ask(0, "SELECT COUNT(*) FROM n a, n b, n c WHERE a.k > NULL AND a.k < 50", "i (0) SELECT 1 I");
        // An empty table counts as 1.
        d.ask(0, "SELECT COUNT(*) FROM n a, n b, e", "i (0) SELECT 1 I");
        d.ask(0, "INSERT INTO n SELECT a.k + 100, 2 FROM n a", "INSERT 56 I");
        d.ask(0, "INSERT INTO n SELECT a.k + 300, 2 FROM n a WHERE a.k < 200", "INSERT 112 I");
        d.ask(0, "SELECT COUNT(*) FROM n a, n b, e", "54001 I");
        d.ask(0, "SELECT COUNT(*) FROM n", "i (224) SELECT 1 I");
        // 2000 rows, and 2001.
        d.ask(0, "SELECT COUNT(*) FROM n a, n b WHERE a.k < 8 AND b.k >= 0 AND NOT (a.k = 7 AND b.k > 7)",
            "i (" + (7 * 224 + 8) + ") SELECT 1 I");
        d.ask(0, "SELECT COUNT(*) FROM n a, n b WHERE a.k < 40 AND b.k < 50", "i (2000) SELECT 1 I");
        d.ask(0, "SELECT COUNT(*) FROM n a, n b WHERE a.k < 40 AND b.k < 50 OR a.k = 40 AND b.k = 0", "54001 I");
        d.ask(0, "BEGIN", "BEGIN T");
        d.ask(0, "SELECT COUNT(*) FROM n a, n b", "54001 F");
    }

    /** The first byte of an answer alone: a long one takes more calls than an object has. */
    private static void first(Desk d, String text, char want) {
        d.due("send " + text, d.send(0, text), 1);
        d.due("the first frame of " + text, (char) (d.x.fetch(0) >>> 48 & 255), want);
    }

    private static void answers() {
        Desk d = Desk.with("answers", 2);
        d.ask(0, "CREATE TABLE w (k INT, s TEXT)", "CREATE I");
        d.ask(0, "INSERT INTO w VALUES (1,'a'),(2,'b'),(3,'c'),(4,'d'),(5,'e'),(6,'f'),(7,'g'),(8,'h')", "INSERT 8 I");
        // A row of 8 texts of 31 is 259 bytes; T is 12, C 12 with two digits, Z 4: 63 rows are 16345, 64 too many.
        String text = "'1234567890123456789012345678901'";
        String items = text + "," + text + "," + text + "," + text + "," + text + "," + text + "," + text + ",";
        first(d, "SELECT " + items + text + " FROM w a, w b LIMIT 63", 'T');
        first(d, "SELECT " + items + text + " FROM w a, w b LIMIT 64", 'E');
        // With a last text of 27 64 rows are 28 + 64 * 255 = 16348, with one of 28 they are 16412.
        first(d, "SELECT " + items + "'123456789012345678901234567' FROM w a, w b", 'T');
        first(d, "SELECT " + items + "'1234567890123456789012345678' FROM w a, w b", 'E');
        // 36 of these 64 rows one longer are 16384 bytes, 37 of them one more.
        d.ask(0, "CREATE TABLE z (n INT, s TEXT)", "CREATE I");
        d.ask(0, "INSERT INTO z SELECT a.k * 8 + b.k, '123456789012345678901234567' FROM w a, w b", "INSERT 64 I");
        d.ask(0, "UPDATE z SET s = s || 'x' WHERE n <= 44", "UPDATE 36 I");
        first(d, "SELECT " + items + "s FROM z", 'T');
        d.ask(0, "BEGIN", "BEGIN T");
        d.ask(0, "UPDATE z SET s = s || 'x' WHERE n = 45", "UPDATE 1 T");
        first(d, "SELECT " + items + "s FROM z", 'E');
        d.state(0, 3);
        d.ask(0, "ROLLBACK", "ROLLBACK I");
        first(d, "SELECT " + items + "s FROM z FOR UPDATE", 'T');
        d.ask(0, "UPDATE z SET s = s || 'x' WHERE n = 45", "UPDATE 1 I");
        d.count(4, 5);
        // At its end, an error like others: what was locked has a number, and no commit.
        d.ask(0, "SELECT " + items + "s FROM z FOR UPDATE", "54000 I");
        d.count(3, 7);
        d.count(4, 5);
        // An INSERT has no such answer.
        d.ask(0, "CREATE TABLE y (a TEXT, b TEXT)", "CREATE I");
        d.ask(0, "INSERT INTO y SELECT a.s, b.s FROM z a, w b", "INSERT 512 I");
        d.ask(0, "SELECT * FROM y", "54000 I");
        // What was not taken is gone with the next message, not with a message that is refused.
        d.send(0, "SELECT k FROM w LIMIT 1");
        d.due("fetch", Long.toHexString(d.x.fetch(0)), "754000201694400");
        d.due("refused", d.x.send(0, 1), 0);
        d.due("fetch", Long.toHexString(d.x.fetch(0)), "702013143000853");
        d.send(0, "FOO");
        d.then(0, "42601 I");
        d.send(0, "SELECT k FROM w LIMIT 1");
        d.x.close(0);
        d.x.open(0);
        d.then(0, "");
        d.due("fetch of one that sent nothing", d.x.fetch(1), 0);
    }

    private static void writing() {
        Desk d = Desk.with("writing", 1);
        d.ask(0, "CREATE TABLE w (k INT NOT NULL UNIQUE, s TEXT NOT NULL, b BOOL)", "CREATE I");
        d.ask(0, "INSERT INTO w VALUES (1,'a',TRUE),(2,'b',NULL),(3,'c',FALSE)", "INSERT 3 I");
        d.ask(0, "INSERT INTO w VALUES (4,'d',TRUE),(NULL,'e',TRUE)", "23502 I");
        d.ask(0, "INSERT INTO w VALUES (1,NULL,TRUE)", "23502 I");
        d.ask(0, "INSERT INTO w VALUES (4,'d',TRUE),(4,'e',TRUE)", "23505 I");
        d.ask(0, "SELECT COUNT(*) FROM w", "i (3) SELECT 1 I");
        d.ask(0, "UPDATE w SET s = NULL WHERE k = 9", "UPDATE 0 I");
        d.ask(0, "UPDATE w SET s = NULL WHERE k = 3", "23502 I");
        d.ask(0, "UPDATE w SET k = k + 1", "23505 I");
        d.ask(0, "UPDATE w SET k = k - 1", "UPDATE 3 I");
        d.ask(0, "UPDATE w SET k = k, s = s || 'x', b = k = 0", "UPDATE 3 I");
        d.ask(0, "SELECT * FROM w", "itb (0,ax,t) (1,bx,f) (2,cx,f) SELECT 3 I");
        d.ask(0, "DELETE FROM w WHERE k = 1", "DELETE 1 I");
        d.ask(0, "INSERT INTO w VALUES (1,'again',NULL)", "INSERT 1 I");
        d.ask(0, "INSERT INTO w SELECT k + 10, s, b FROM w", "INSERT 3 I");
        d.ask(0, "SELECT k FROM w", "i (0) (1) (2) (10) (11) (12) SELECT 6 I");
        d.ask(0, "INSERT INTO w SELECT k + 1, s, b FROM w", "23505 I");
        d.ask(0, "DELETE FROM w", "DELETE 6 I");
        d.ask(0, "SELECT k FROM w", "i SELECT 0 I");
        d.ask(0, "DELETE FROM w", "DELETE 0 I");
    }
}
