/** Promises 5 and 11, sentence by sentence: the bounds of reads, arrows, dangers and what is kept (SERIALIZABLE). */
public final class BoundsOfSerialTest {
    public static void main(String[] args) {
        boundsOfRanges();
        boundsOfOneValue();
        textsAndBools();
        firstIndexWithEqual();
        firstEqualValue();
        firstIndexWithOthers();
        wholeTable();
        nullBounds();
        nullValues();
        eightRanges();
        eightRangesOfEachTable();
        sameRangeOnce();
        sameRangeOfAnotherColumn();
        looksAreRanges();
        ninthReadsItsRange();
        wholeFromThenOn();
        rangesOfAllStatements();
        joinedTables();
        droppedTables();
        concurrent();
        snapshotsBegin();
        aMayBeB();
        committedBefore();
        undone();
        rolledBack();
        knownWhenNotKept();
        noOtherWhenNotKept();
        arrowsToSeveral();
        arrowsOfOneRead();
        committedAndRunning();
        goneWithThePower();
        sixtyFour();
        goneWithTheLongOne();
        sixtyFourRunningToo();
        rolledBackAreNotKept();
        doomedFromItsSnapshotOn();
        doomedByErrors();
        notDoomedByOthers();
        whenDoomed();
        whenDoomedAndFailed();
        waitedAndDoomed();
        lookOfADoomedOne();
        Desk.end("BoundsOfSerialTest");
    }

    /** A table t with indexes of a (unique), b and c, but none of e; a table u; nothing in t. */
    private static Desk desk(String name) {
        Desk d = Desk.with(name, 4);
        d.ask(0, "CREATE TABLE t (a INT UNIQUE, b INT, c INT, e INT, s TEXT, f BOOL)", "CREATE I");
        d.ask(0, "CREATE INDEX ON t (b)", "CREATE I");
        d.ask(0, "CREATE INDEX ON t (c)", "CREATE I");
        d.ask(0, "CREATE INDEX ON t (s)", "CREATE I");
        d.ask(0, "CREATE INDEX ON t (f)", "CREATE I");
        d.ask(0, "CREATE TABLE u (k INT)", "CREATE I");
        return d;
    }

    private static void begin(Desk d, int... sessions) {
        for (int s : sessions) {
            d.ask(s, "BEGIN SERIALIZABLE", "BEGIN T");
        }
    }

    private static void good(Desk d, int s, String text) {
        d.due("send " + text, d.send(s, text), 1);
        d.due("the answer's first byte: " + text, (char) (d.x.fetch(s) >>> 48 & 255) != 'E', true);
    }

    /** Session 0 has begun; whether an arrow comes from it when 1 writes in t: then 0 -> 1 -> 0, and 1 commits first. */
    private static void arrow(Desk d, String write, boolean want) {
        good(d, 1, "BEGIN SERIALIZABLE");
        good(d, 1, "SELECT COUNT(*) FROM u");
        good(d, 0, "INSERT INTO u VALUES (5)");
        good(d, 1, write);
        d.ask(1, "COMMIT", "COMMIT I");
        d.ask(0, "COMMIT", want ? "40001 F" : "COMMIT I");
    }

    private static void reads(String where, String row, boolean want) {
        Desk d = desk("WHERE " + where + " against " + row);
        begin(d, 0);
        good(d, 0, "SELECT COUNT(*) FROM t WHERE " + where);
        arrow(d, "INSERT INTO t VALUES (" + row + ")", want);
    }

    private static void readsB(String where, int b, boolean want) {
        reads(where, "1," + b + ",1,1,'a',TRUE", want);
    }

    // "the range from the greatest lower to the least upper bound, as the conditions say with or without the bounds"
    private static void boundsOfRanges() {
        readsB("b = 5", 5, true);
        readsB("b = 5", 4, false);
        readsB("b = 5", 6, false);
        readsB("b < 5", 4, true);
        readsB("b < 5", 5, false);
        readsB("b <= 5", 5, true);
        readsB("b <= 5", 6, false);
        readsB("b > 5", 6, true);
        readsB("b > 5", 5, false);
        readsB("b >= 5", 5, true);
        readsB("b >= 5", 4, false);
        readsB("5 > b", 5, false);
        readsB("5 >= b", 5, true);
        readsB("5 < b", 5, false);
        readsB("5 <= b", 5, true);
        readsB("b BETWEEN 5 AND 7", 5, true);
        readsB("b BETWEEN 5 AND 7", 7, true);
        readsB("b BETWEEN 5 AND 7", 4, false);
        readsB("b BETWEEN 5 AND 7", 8, false);
        readsB("b > 2 AND b > 5 AND b > 3", 5, false);
        readsB("b > 2 AND b > 5 AND b > 3", 6, true);
        readsB("b < 9 AND b < 5 AND b < 7", 5, false);
        readsB("b < 9 AND b < 5 AND b < 7", 4, true);
        // Also where WHERE is never t: nothing is in the range, or much of it is no row.
        readsB("b > 5 AND b < 5", 5, false);
        readsB("b >= 5 AND b <= 5", 5, true);
        readsB("b > 3 AND FALSE", 4, true);
    }

    // "(Of bounds with one value the one without it counts.)"
    private static void boundsOfOneValue() {
        readsB("b >= 5 AND b > 5", 5, false);
        readsB("b > 5 AND b >= 5", 5, false);
        readsB("b <= 5 AND b < 5", 5, false);
        readsB("b < 5 AND b <= 5", 5, false);
        readsB("b >= 5 AND b > 5", 6, true);
        readsB("b > 5 AND b >= 5", 6, true);
        readsB("b <= 5 AND b < 5", 4, true);
        readsB("b < 5 AND b <= 5", 4, true);
        readsB("b >= 5 AND b >= 5", 5, true);
        readsB("b > 5 AND b >= 6", 6, true);
        readsB("b BETWEEN 5 AND 7 AND b > 5", 5, false);
        readsB("b BETWEEN 5 AND 7 AND b > 4", 5, true);
    }

    private static void textsAndBools() {
        reads("s = 'a'", "1,1,1,1,'a',TRUE", true);
        reads("s = 'a'", "1,1,1,1,'aa',TRUE", false);
        reads("s > 'a'", "1,1,1,1,'aa',TRUE", true);
        reads("s >= ''", "1,1,1,1,'',TRUE", true);
        reads("s < 'b'", "1,1,1,1,'b',TRUE", false);
        reads("f = TRUE", "1,1,1,1,'a',TRUE", true);
        reads("f = TRUE", "1,1,1,1,'a',FALSE", false);
        reads("f < TRUE", "1,1,1,1,'a',FALSE", true);
        reads("f < TRUE", "1,1,1,1,'a',TRUE", false);
    }

    // "of the table's indexes, in the order of their making, the first whose column has an ="
    private static void firstIndexWithEqual() {
        reads("c = 5 AND b = 6", "1,6,9,1,'a',TRUE", true);
        reads("c = 5 AND b = 6", "1,9,5,1,'a',TRUE", false);
        // An = of a later index is before others of an earlier one.
        reads("b > 3 AND c = 5", "1,4,9,1,'a',TRUE", false);
        reads("b > 3 AND c = 5", "1,0,5,1,'a',TRUE", true);
        reads("e = 3 AND c = 5", "1,1,5,9,'a',TRUE", true);
        reads("e = 3 AND c = 5", "1,1,9,3,'a',TRUE", false);
    }

    // "(the range is the first such value alone)"
    private static void firstEqualValue() {
        readsB("b = 5 AND b = 6", 5, true);
        readsB("b = 5 AND b = 6", 6, false);
        readsB("b > 7 AND b = 5", 5, true);
        readsB("b > 7 AND b = 5", 8, false);
        readsB("5 = b AND b = 6", 6, false);
        readsB("b IN (5) AND b = 6", 6, false);
        readsB("(e = 1 AND (b = 5)) AND b = 6", 6, false);
        readsB("b = 2 + 3", 5, true);
        readsB("b = 2 + 3", 6, false);
    }

    // "otherwise the first whose column has others"
    private static void firstIndexWithOthers() {
        reads("c > 5 AND b > 6", "1,7,0,1,'a',TRUE", true);
        reads("c > 5 AND b > 6", "1,0,6,1,'a',TRUE", false);
        reads("e > 5 AND c > 6", "1,1,7,0,'a',TRUE", true);
        reads("e > 5 AND c > 6", "1,1,0,9,'a',TRUE", false);
    }

    // "else the whole table"
    private static void wholeTable() {
        for (String where : new String[] {"TRUE", "FALSE", "NULL", "e = 5", "b <> 5", "b = 5 OR b = 6", "NOT b <> 5",
            "b IN (5, 6)", "b NOT IN (5)", "b NOT BETWEEN 5 AND 6", "b IS NULL", "b = c", "b = b", "b + 0 = 5", "-b = -5",
            "b = e - e", "(b = 5) = TRUE", "(b = 5) IS NOT NULL"}) {
            readsB(where, 99, true);
        }
        Desk d = desk("no WHERE");
        begin(d, 0);
        good(d, 0, "SELECT COUNT(*) FROM t");
        arrow(d, "INSERT INTO t VALUES (NULL, NULL, NULL, NULL, NULL, NULL)", true);
    }

    // "With a value or bound that is NULL there is none in the range, and nothing is read."
    private static void nullBounds() {
        for (String where : new String[] {"b = NULL", "NULL = b", "b < NULL", "b >= NULL", "b > 1 AND b < NULL",
            "b < NULL AND b > 1", "b BETWEEN NULL AND 9", "b BETWEEN 1 AND NULL", "b = 1 / 0", "b = NULL AND b = 5"}) {
            readsB(where, 5, false);
        }
        // The first = counts, and the first index with one.
        readsB("b = 5 AND b = NULL", 5, true);
        readsB("b = NULL AND c = 1", 5, false);
        readsB("c = NULL AND b = 5", 5, true);
        // Nothing is read: it is no range of the eight either.
        Desk d = desk("no range of NULL");
        begin(d, 0);
        for (int i = 1; i <= 8; i++) {
            good(d, 0, "SELECT COUNT(*) FROM t WHERE b = " + i);
            good(d, 0, "SELECT COUNT(*) FROM t WHERE b = NULL");
        }
        arrow(d, "INSERT INTO t VALUES (1,99,1,1,'a',TRUE)", false);
    }

    // "(its column's value is in it)": NULL is in no range, but in the whole table.
    private static void nullValues() {
        reads("b > -999999", "1,NULL,1,1,'a',TRUE", false);
        reads("b < 999999", "1,NULL,1,1,'a',TRUE", false);
        reads("b = 5", "1,NULL,1,1,'a',TRUE", false);
        reads("e = 5", "1,NULL,1,1,'a',TRUE", true);
    }

    // "with more than 8 ranges of one table kept, the whole table is read from then on"
    private static void eightRanges() {
        for (int n = 7; n <= 10; n++) {
            Desk d = desk(n + " ranges");
            begin(d, 0);
            for (int i = 1; i <= n; i++) {
                good(d, 0, "SELECT COUNT(*) FROM t WHERE b = " + i);
            }
            arrow(d, "INSERT INTO t VALUES (1,99,1,1,'a',TRUE)", n > 8);
            // Each of the eight is kept.
            if (n == 8) {
                for (int i = 1; i <= 8; i += 7) {
                    Desk e = desk("the range of " + i + " of 8");
                    begin(e, 0);
                    for (int k = 1; k <= n; k++) {
                        good(e, 0, "SELECT COUNT(*) FROM t WHERE b = " + k);
                    }
                    arrow(e, "INSERT INTO t VALUES (1," + i + ",1,1,'a',TRUE)", true);
                }
            }
        }
    }

    private static void eightRangesOfEachTable() {
        Desk d = desk("8 ranges of each of two tables");
        d.ask(0, "CREATE TABLE v (b INT)", "CREATE I");
        d.ask(0, "CREATE INDEX ON v (b)", "CREATE I");
        begin(d, 0);
        for (int i = 1; i <= 8; i++) {
            good(d, 0, "SELECT COUNT(*) FROM t, v WHERE t.b = " + i + " AND v.b = " + i);
        }
        arrow(d, "INSERT INTO t VALUES (1,99,1,1,'a',TRUE)", false);
    }

    // "The same range of the same column is kept once"
    private static void sameRangeOnce() {
        Desk d = desk("the same range");
        begin(d, 0);
        for (int i = 1; i <= 8; i++) {
            good(d, 0, "SELECT COUNT(*) FROM t WHERE b = " + i);
            good(d, 0, "SELECT COUNT(*) FROM t WHERE b >= " + i + " AND b <= " + i);
            good(d, 0, "SELECT COUNT(*) FROM t WHERE b BETWEEN " + i + " AND " + i + " AND b < 50");
        }
        arrow(d, "INSERT INTO t VALUES (1,99,1,1,'a',TRUE)", false);
        // Ranges with one bound, or with the other.
        d = desk("the same range of one bound");
        begin(d, 0);
        for (int i = 1; i <= 6; i++) {
            good(d, 0, "SELECT COUNT(*) FROM t WHERE b = " + i);
            good(d, 0, "SELECT COUNT(*) FROM t WHERE b > 100");
            good(d, 0, "SELECT COUNT(*) FROM t WHERE b < -100");
        }
        arrow(d, "INSERT INTO t VALUES (1,99,1,1,'a',TRUE)", false);
        d = desk("ranges that differ in a bound's being in it");
        begin(d, 0);
        String[] nine = {"b > 1 AND b < 5", "b >= 1 AND b < 5", "b > 1 AND b <= 5", "b >= 1 AND b <= 5", "b > 1", "b >= 1",
            "b < 5", "b <= 5", "b = 5"};
        for (String where : nine) {
            good(d, 0, "SELECT COUNT(*) FROM t WHERE " + where.replace("b > 1", "b > 70").replace("b >= 1", "b >= 70")
                .replace("< 5", "< 60").replace("<= 5", "<= 60").replace("b = 5", "b = 65"));
        }
        arrow(d, "INSERT INTO t VALUES (1,NULL,1,1,'a',TRUE)", true);
    }

    private static void sameRangeOfAnotherColumn() {
        Desk d = desk("ranges of two columns");
        begin(d, 0);
        for (int i = 1; i <= 4; i++) {
            good(d, 0, "SELECT COUNT(*) FROM t WHERE b = " + i);
            good(d, 0, "SELECT COUNT(*) FROM t WHERE c = " + i);
        }
        arrow(d, "INSERT INTO t VALUES (1,99,99,1,'a',TRUE)", false);
        d = desk("a ninth of two columns");
        begin(d, 0);
        for (int i = 1; i <= 4; i++) {
            good(d, 0, "SELECT COUNT(*) FROM t WHERE b = " + i);
            good(d, 0, "SELECT COUNT(*) FROM t WHERE c = " + i);
        }
        good(d, 0, "SELECT COUNT(*) FROM t WHERE c = 5");
        arrow(d, "INSERT INTO t VALUES (1,99,99,1,'a',TRUE)", true);
    }

    // "Looking whether a value is unique is a read, too, of the range of that one value of the column"
    private static void looksAreRanges() {
        for (int n = 8; n <= 9; n++) {
            Desk d = desk("looks at " + n + " values");
            begin(d, 0);
            for (int i = 1; i <= n; i++) {
                good(d, 0, "INSERT INTO t VALUES (" + i + ",1,1,1,'a',TRUE)");
            }
            arrow(d, "INSERT INTO t VALUES (99,99,99,1,'a',TRUE)", n == 9);
        }
        Desk d = desk("a look that is refused by none, and read by itself");
        begin(d, 0);
        good(d, 0, "INSERT INTO t VALUES (7,1,1,1,'a',TRUE)");
        good(d, 0, "DELETE FROM t WHERE a = 7");
        good(d, 0, "SAVEPOINT x");
        arrow(d, "INSERT INTO t VALUES (8,99,99,1,'a',TRUE)", false);
    }

    // "(for all such versions as are in the range of this read itself, also if it is the ninth one)"
    private static void ninthReadsItsRange() {
        for (int value = 9; value <= 10; value++) {
            Desk d = desk("the ninth reads its range: " + value);
            begin(d, 0, 1);
            for (int i = 1; i <= 8; i++) {
                good(d, 0, "SELECT COUNT(*) FROM t WHERE b = " + i);
            }
            good(d, 1, "SELECT COUNT(*) FROM u");
            good(d, 1, "INSERT INTO t VALUES (1," + value + ",1,1,'a',TRUE)");
            good(d, 0, "SELECT COUNT(*) FROM t WHERE b = 9");
            good(d, 0, "INSERT INTO u VALUES (5)");
            d.ask(1, "COMMIT", "COMMIT I");
            d.ask(0, "COMMIT", value == 9 ? "40001 F" : "COMMIT I");
        }
    }

    // "the whole table is read from then on"
    private static void wholeFromThenOn() {
        Desk d = desk("from then on");
        begin(d, 0);
        good(d, 0, "SELECT COUNT(*) FROM t");
        good(d, 0, "SELECT COUNT(*) FROM t WHERE b = 5");
        arrow(d, "INSERT INTO t VALUES (1,NULL,1,1,'a',TRUE)", true);
        d = desk("a range first");
        begin(d, 0);
        good(d, 0, "SELECT COUNT(*) FROM t WHERE b = 5");
        good(d, 0, "SELECT COUNT(*) FROM t");
        arrow(d, "INSERT INTO t VALUES (1,NULL,1,1,'a',TRUE)", true);
    }

    // "for each table of a query, UPDATE, DELETE or FOR"
    private static void rangesOfAllStatements() {
        String[] texts = {"UPDATE t SET e = 9 WHERE b = 5", "DELETE FROM t WHERE b = 5", "SELECT e FROM t WHERE b = 5 FOR SHARE",
            "INSERT INTO u SELECT e FROM t WHERE b = 5", "SELECT e FROM t WHERE b = 5"};
        for (String text : texts) {
            for (int value = 5; value <= 6; value++) {
                Desk d = desk(text + " against " + value);
                begin(d, 0);
                good(d, 0, text);
                arrow(d, "INSERT INTO t VALUES (1," + value + ",1,1,'a',TRUE)", value == 5);
            }
        }
        Desk d = desk("INSERT reads nothing but what is unique");
        begin(d, 0);
        good(d, 0, "INSERT INTO t VALUES (NULL,1,1,1,'a',TRUE)");
        arrow(d, "INSERT INTO t VALUES (NULL,1,1,1,'a',TRUE)", false);
    }

    private static void joinedTables() {
        for (int value = 5; value <= 6; value++) {
            Desk d = desk("of two tables: " + value);
            begin(d, 0);
            good(d, 0, "SELECT COUNT(*) FROM t x, t y WHERE x.b = 5 AND y.b = 7");
            arrow(d, "INSERT INTO t VALUES (1," + (value == 5 ? 7 : 6) + ",1,1,'a',TRUE)", value == 5);
        }
    }

    // "(Of a table that was dropped none is kept.)"
    private static void droppedTables() {
        Desk d = desk("a table that was dropped");
        begin(d, 0);
        good(d, 0, "SELECT COUNT(*) FROM u");
        good(d, 0, "SAVEPOINT x");
        good(d, 0, "SELECT COUNT(*) FROM t");
        good(d, 0, "ROLLBACK TO x");
        d.ask(2, "DROP TABLE t", "DROP I");
        d.ask(2, "CREATE TABLE t (a INT)", "CREATE I");
        arrow(d, "INSERT INTO t VALUES (1)", false);
        // The indexes of a dropped table are none of the new one's.
        d = Desk.with("a table in the place of one with an index", 4);
        d.ask(0, "CREATE TABLE u (k INT)", "CREATE I");
        d.ask(0, "CREATE TABLE t (a INT, b INT UNIQUE)", "CREATE I");
        d.ask(0, "DROP TABLE t", "DROP I");
        d.ask(0, "CREATE TABLE t (a INT, b INT)", "CREATE I");
        begin(d, 0);
        good(d, 0, "SELECT COUNT(*) FROM t WHERE b = 5");
        arrow(d, "INSERT INTO t VALUES (1, 6)", true);
        // Without the drop ROLLBACK TO takes no read away.
        d = desk("a table that was not dropped");
        begin(d, 0);
        good(d, 0, "SAVEPOINT x");
        good(d, 0, "SELECT COUNT(*) FROM t");
        good(d, 0, "ROLLBACK TO x");
        arrow(d, "INSERT INTO t VALUES (1,1,1,1,'a',TRUE)", true);
    }

    // "Two are CONCURRENT if each began (its snapshot) before the other one's commit."
    private static void concurrent() {
        Desk d = desk("not concurrent");
        begin(d, 0, 1);
        // 1 begins (its snapshot) behind 0's commit, though its BEGIN was before.
        good(d, 0, "SELECT COUNT(*) FROM t");
        good(d, 0, "INSERT INTO u VALUES (1)");
        d.ask(0, "COMMIT", "COMMIT I");
        good(d, 1, "SELECT COUNT(*) FROM u");
        good(d, 1, "INSERT INTO t VALUES (1,1,1,1,'a',TRUE)");
        d.ask(1, "COMMIT", "COMMIT I");
        d = desk("concurrent");
        begin(d, 0, 1);
        good(d, 0, "SELECT COUNT(*) FROM t");
        good(d, 0, "INSERT INTO u VALUES (1)");
        good(d, 1, "SELECT COUNT(*) FROM u");
        d.ask(0, "COMMIT", "COMMIT I");
        d.ask(1, "INSERT INTO t VALUES (1,1,1,1,'a',TRUE)", "40001 F");
    }

    private static void snapshotsBegin() {
        Desk d = desk("LOCK and SAVEPOINT begin nothing");
        begin(d, 0, 1);
        good(d, 1, "LOCK u ACCESS SHARE");
        good(d, 1, "SAVEPOINT x");
        good(d, 1, "PREPARE p AS SELECT COUNT(*) FROM u");
        good(d, 0, "SELECT COUNT(*) FROM t");
        good(d, 0, "INSERT INTO u VALUES (1)");
        d.ask(0, "COMMIT", "COMMIT I");
        d.ask(1, "EXECUTE p", "i (1) SELECT 1 T");
        good(d, 1, "INSERT INTO t VALUES (1,1,1,1,'a',TRUE)");
        d.ask(1, "COMMIT", "COMMIT I");
    }

    /** 0 -> 1 -> 2, all three running: 0 reads b = 1 of t, 1 writes that and reads b = 2, 2 writes that. */
    private static Desk chain(String name) {
        Desk d = desk(name);
        begin(d, 0, 1, 2);
        good(d, 0, "SELECT COUNT(*) FROM t WHERE b = 1");
        good(d, 1, "SELECT COUNT(*) FROM t WHERE b = 2");
        good(d, 1, "INSERT INTO t VALUES (NULL,1,1,1,'a',TRUE)");
        good(d, 2, "INSERT INTO t VALUES (NULL,2,1,1,'a',TRUE)");
        return d;
    }

    // "A DANGER is A -> P -> B with B committed, ... (A may be B)"
    private static void aMayBeB() {
        Desk d = desk("A may be B");
        begin(d, 0);
        good(d, 0, "SELECT COUNT(*) FROM t WHERE b = 1");
        arrow(d, "INSERT INTO t VALUES (NULL,1,1,1,'a',TRUE)", true);
        // One arrow is none.
        d = desk("one arrow");
        begin(d, 0, 1);
        good(d, 0, "SELECT COUNT(*) FROM t WHERE b = 1");
        good(d, 1, "INSERT INTO t VALUES (NULL,1,1,1,'a',TRUE)");
        d.ask(1, "COMMIT", "COMMIT I");
        good(d, 0, "INSERT INTO t VALUES (NULL,2,1,1,'a',TRUE)");
        d.ask(0, "COMMIT", "COMMIT I");
    }

    // "neither A nor P committed before B"; "When B commits, each running P with A -> P -> B, A not committed before"
    private static void committedBefore() {
        int[][] orders = {{0, 1, 2}, {0, 2, 1}, {1, 0, 2}, {1, 2, 0}, {2, 0, 1}, {2, 1, 0}};
        for (int[] order : orders) {
            Desk d = chain("commits in the order " + order[0] + order[1] + order[2]);
            for (int s : order) {
                // Only where 2 is the first of the three is 1 doomed.
                d.ask(s, "COMMIT", s == 1 && order[0] == 2 ? "40001 F" : "COMMIT I");
            }
            d.due("rings", d.x.rings(), 0);
        }
        // The arrows come behind the commits: A -> P comes when P has committed.
        Desk d = desk("P committed before B");
        begin(d, 0, 1, 2);
        good(d, 0, "SELECT COUNT(*) FROM u");
        good(d, 1, "SELECT COUNT(*) FROM t WHERE b = 2");
        good(d, 1, "INSERT INTO t VALUES (NULL,1,1,1,'a',TRUE)");
        good(d, 2, "INSERT INTO t VALUES (NULL,2,1,1,'a',TRUE)");
        d.ask(1, "COMMIT", "COMMIT I");
        d.ask(2, "COMMIT", "COMMIT I");
        d.ask(0, "SELECT COUNT(*) FROM t WHERE b = 1", "i (0) SELECT 1 T");
        d = desk("B committed before P");
        begin(d, 0, 1, 2);
        good(d, 0, "SELECT COUNT(*) FROM u");
        good(d, 1, "SELECT COUNT(*) FROM t WHERE b = 2");
        good(d, 1, "INSERT INTO t VALUES (NULL,1,1,1,'a',TRUE)");
        good(d, 2, "INSERT INTO t VALUES (NULL,2,1,1,'a',TRUE)");
        d.ask(2, "COMMIT", "COMMIT I");
        d.ask(1, "COMMIT", "COMMIT I");
        d.ask(0, "SELECT COUNT(*) FROM t WHERE b = 1", "40001 F");
    }

    // "What B undid (by ROLLBACK TO) makes none when A reads"
    private static void undone() {
        for (int way = 0; way < 2; way++) {
            Desk d = desk(way == 0 ? "undone before the read" : "not undone before the read");
            begin(d, 0, 1);
            good(d, 1, "SELECT COUNT(*) FROM u");
            good(d, 1, "SAVEPOINT x");
            good(d, 1, "INSERT INTO t VALUES (NULL,1,1,1,'a',TRUE)");
            good(d, 1, way == 0 ? "ROLLBACK TO x" : "RELEASE x");
            good(d, 0, "SELECT COUNT(*) FROM t WHERE b = 1");
            good(d, 0, "INSERT INTO u VALUES (1)");
            d.ask(1, "COMMIT", "COMMIT I");
            d.ask(0, "COMMIT", way == 0 ? "COMMIT I" : "40001 F");
        }
        // "an arrow that is there is known as long as A is kept"
        Desk d = desk("undone behind the read");
        begin(d, 0, 1);
        good(d, 1, "SELECT COUNT(*) FROM u");
        good(d, 0, "SELECT COUNT(*) FROM t WHERE b = 1");
        good(d, 1, "SAVEPOINT x");
        good(d, 1, "INSERT INTO t VALUES (NULL,1,1,1,'a',TRUE)");
        good(d, 1, "ROLLBACK TO x");
        good(d, 0, "INSERT INTO u VALUES (1)");
        d.ask(1, "COMMIT", "COMMIT I");
        d.ask(0, "COMMIT", "40001 F");
    }

    // "but not if B was rolled back", "rolled back ones are not kept"
    private static void rolledBack() {
        Desk d = chain("B rolled back");
        d.ask(2, "ROLLBACK", "ROLLBACK I");
        d.ask(1, "COMMIT", "COMMIT I");
        d.ask(0, "COMMIT", "COMMIT I");
        d = chain("A rolled back");
        d.ask(0, "ROLLBACK", "ROLLBACK I");
        d.ask(2, "COMMIT", "COMMIT I");
        d.ask(1, "COMMIT", "COMMIT I");
        d = chain("A failed at level 0");
        d.ask(0, "NONSENSE", "42601 F");
        d.ask(2, "COMMIT", "COMMIT I");
        d.ask(1, "COMMIT", "COMMIT I");
        d = chain("A failed behind a savepoint");
        good(d, 0, "SAVEPOINT x");
        d.ask(0, "NONSENSE", "42601 F");
        d.ask(2, "COMMIT", "COMMIT I");
        d.ask(1, "COMMIT", "40001 F");
        d = chain("A closed");
        d.due("close", d.x.close(0), true);
        d.ask(2, "COMMIT", "COMMIT I");
        d.ask(1, "COMMIT", "COMMIT I");
    }

    // "known as long as A is kept, also when B is not any more"
    private static void knownWhenNotKept() {
        Desk d = desk("B is not kept any more");
        begin(d, 1, 2);
        good(d, 1, "SELECT COUNT(*) FROM t WHERE b = 2");
        good(d, 2, "INSERT INTO t VALUES (NULL,2,1,1,'a',TRUE)");
        d.ask(2, "COMMIT", "COMMIT I");
        begin(d, 0);
        good(d, 0, "SELECT COUNT(*) FROM u");
        good(d, 1, "INSERT INTO t VALUES (NULL,1,1,1,'a',TRUE)");
        d.ask(1, "COMMIT", "COMMIT I");
        // Only 0 runs, and it began behind 2's commit: 2 is not kept, but 1 -> 2 is known.
        d.ask(0, "SELECT COUNT(*) FROM t WHERE b = 1", "40001 F");
    }

    // What is not kept any more leaves the other arrows as they are.
    private static void noOtherWhenNotKept() {
        Desk d = desk("no other arrow than the one that was there");
        begin(d, 1, 2);
        good(d, 1, "SELECT COUNT(*) FROM t WHERE b = 2");
        good(d, 2, "INSERT INTO t VALUES (NULL,2,1,1,'a',TRUE)");
        d.ask(2, "COMMIT", "COMMIT I");
        begin(d, 0, 3);
        good(d, 0, "SELECT COUNT(*) FROM t WHERE b = 50");
        good(d, 3, "INSERT INTO u VALUES (1)");
        d.ask(3, "COMMIT", "COMMIT I");
        d.ask(1, "COMMIT", "COMMIT I");
        d.ask(0, "SELECT COUNT(*) FROM u", "i (0) SELECT 1 T");
        d.ask(0, "COMMIT", "COMMIT I");
    }

    // One arrow does not take the place of another.
    private static void arrowsToSeveral() {
        for (int last = 1; last <= 2; last++) {
            Desk d = desk("0 -> 1 and 0 -> 2, the last being " + last);
            begin(d, 0, 1, 2, 3);
            good(d, 0, "SELECT COUNT(*) FROM t WHERE b = 1 OR b = 2");
            good(d, 3, "SELECT COUNT(*) FROM u");
            int first = 3 - last;
            good(d, first, "INSERT INTO t VALUES (NULL," + first + ",1,1,'a',TRUE)");
            good(d, last, "INSERT INTO t VALUES (NULL," + last + ",1,1,'a',TRUE)");
            good(d, 0, "INSERT INTO u VALUES (1)");
            d.ask(1, "COMMIT", "COMMIT I");
            d.ask(0, "COMMIT", "40001 F");
        }
    }

    // "(there before or not; all of them come)": of all the versions in a read's range.
    private static void arrowsOfOneRead() {
        for (int row = 1; row <= 3; row += 2) {
            Desk d = desk("arrows of one read, the danger's row being " + row);
            begin(d, 0, 1, 2, 3);
            good(d, 0, "SELECT COUNT(*) FROM u");
            good(d, 1, "INSERT INTO u VALUES (1)");
            good(d, 3, "INSERT INTO t VALUES (2,1,1,1,'a',TRUE)");
            good(d, 2, "INSERT INTO t VALUES (" + row + ",1,1,1,'a',TRUE)");
            d.ask(2, "COMMIT", "COMMIT I");
            d.ask(1, "SELECT COUNT(*) FROM t WHERE b = 1", "40001 F");
        }
    }

    // P -> B with B committed counts, whatever other arrow P has.
    private static void committedAndRunning() {
        for (int committed = 2; committed <= 3; committed++) {
            Desk d = desk("1 -> 2 and 1 -> 3, committed is " + committed);
            begin(d, 0, 1, 2, 3);
            good(d, 0, "SELECT COUNT(*) FROM t WHERE b = 1");
            good(d, 1, "SELECT COUNT(*) FROM t WHERE b = 2 OR b = 3");
            good(d, 2, "INSERT INTO t VALUES (NULL,2,1,1,'a',TRUE)");
            good(d, 3, "INSERT INTO t VALUES (NULL,3,1,1,'a',TRUE)");
            d.ask(committed, "COMMIT", "COMMIT I");
            d.ask(1, "INSERT INTO t VALUES (NULL,1,1,1,'a',TRUE)", "40001 F");
        }
    }

    // "Prepared statements, savepoints, locks and reads are gone." (POWER)
    private static void goneWithThePower() {
        Desk d = desk("reads are gone with the power");
        begin(d, 1);
        good(d, 1, "SELECT COUNT(*) FROM t");
        d.x.charge(0);
        d.ask(0, "CHECKPOINT", "power");
        d.due("start", d.x.start(), true);
        for (int s = 0; s < 4; s++) {
            d.due("open", d.x.open(s), true);
        }
        begin(d, 0, 2);
        good(d, 0, "SELECT COUNT(*) FROM u");
        good(d, 2, "INSERT INTO u VALUES (1)");
        d.ask(2, "COMMIT", "COMMIT I");
        good(d, 0, "INSERT INTO t VALUES (1,1,1,1,'a',TRUE)");
        d.ask(0, "COMMIT", "COMMIT I");
    }

    // "A committed transaction is kept as long as one that was concurrent runs": also when that is rolled back.
    private static void goneWithTheLongOne() {
        Desk d = keeping("gone with the one that is rolled back");
        commitMany(d, 63);
        d.ask(0, "ROLLBACK", "ROLLBACK I");
        begin(d, 0, 1, 2);
        for (int s = 0; s < 3; s++) {
            d.ask(s, "SELECT k FROM u", "i SELECT 0 T");
        }
    }

    /** So many that commit while session 0, which has begun, runs. */
    private static void commitMany(Desk d, int n) {
        for (int i = 0; i < n; i++) {
            d.due("send", d.send(1, "BEGIN SERIALIZABLE"), 1);
            d.due("send", d.send(1, "EXECUTE p"), 1);
            d.due("send", d.send(1, "COMMIT"), 1);
        }
    }

    private static Desk keeping(String name) {
        Desk d = Desk.with(name, 4);
        d.ask(0, "CREATE TABLE u (k INT)", "CREATE I");
        d.ask(1, "PREPARE p AS SELECT k FROM u", "PREPARE I");
        begin(d, 0);
        d.ask(0, "SELECT k FROM u", "i SELECT 0 T");
        return d;
    }

    // "At most 64 are kept, running and committed ones: the first snapshot of one more is 53200."
    private static void sixtyFour() {
        Desk d = keeping("64 are kept");
        commitMany(d, 62);
        // 63 are kept: one more may begin, the 65th not.
        begin(d, 2, 3);
        d.ask(2, "SELECT k FROM u", "i SELECT 0 T");
        d.ask(3, "SAVEPOINT x", "SAVEPOINT T");
        d.ask(3, "SELECT k FROM u", "53200 F");
        d.ask(2, "SELECT k FROM u", "i SELECT 0 T");
        d.ask(3, "ROLLBACK TO x", "ROLLBACK T");
        d.ask(3, "SELECT k FROM u", "53200 F");
        // A place is free when one is rolled back.
        d.ask(3, "ROLLBACK TO x", "ROLLBACK T");
        d.ask(2, "ROLLBACK", "ROLLBACK I");
        d.ask(3, "SELECT k FROM u", "i SELECT 0 T");
        // All go when the one that was concurrent to all ends.
        d.ask(0, "COMMIT", "COMMIT I");
        begin(d, 0, 1, 2);
        for (int s = 0; s < 3; s++) {
            d.ask(s, "SELECT k FROM u", "i SELECT 0 T");
        }
    }

    // "running and committed ones"
    private static void sixtyFourRunningToo() {
        Desk d = keeping("running ones too");
        begin(d, 2);
        d.ask(2, "SELECT k FROM u", "i SELECT 0 T");
        commitMany(d, 62);
        d.due("send", d.send(1, "BEGIN SERIALIZABLE"), 1);
        d.ask(1, "EXECUTE p", "53200 F");
        d.ask(1, "ROLLBACK", "ROLLBACK I");
        // One that is not serializable needs no place, nor does one that has taken no snapshot.
        d.ask(1, "EXECUTE p", "i SELECT 0 I");
        d.ask(1, "BEGIN REPEATABLE READ", "BEGIN T");
        d.ask(1, "EXECUTE p", "i SELECT 0 T");
        d.ask(1, "COMMIT", "COMMIT I");
        d.due("send", d.send(1, "BEGIN SERIALIZABLE"), 1);
        d.ask(1, "LOCK u SHARE", "LOCK T");
        d.ask(1, "COMMIT", "COMMIT I");
        d.ask(2, "COMMIT", "COMMIT I");
        d.due("send", d.send(1, "BEGIN SERIALIZABLE"), 1);
        d.ask(1, "EXECUTE p", "53200 F");
    }

    private static void rolledBackAreNotKept() {
        Desk d = keeping("rolled back ones are not kept");
        for (int i = 0; i < 66; i++) {
            d.due("send", d.send(1, "BEGIN SERIALIZABLE"), 1);
            d.due("send", d.send(1, "EXECUTE p"), 1);
            d.due("send", d.send(1, "ROLLBACK"), 1);
        }
        begin(d, 2);
        d.ask(2, "SELECT k FROM u", "i SELECT 0 T");
        d = keeping("closed ones are not kept");
        for (int i = 0; i < 66; i++) {
            d.due("send", d.send(1, "BEGIN SERIALIZABLE"), 1);
            d.due("send", d.send(1, "SELECT k FROM u"), 1);
            d.due("close and open", d.x.close(1) && d.x.open(1), true);
        }
        begin(d, 2);
        d.ask(2, "SELECT k FROM u", "i SELECT 0 T");
        d = keeping("failed ones are not kept");
        commitMany(d, 20);
        for (int i = 0; i < 44; i++) {
            d.due("send", d.send(1, "BEGIN SERIALIZABLE"), 1);
            d.due("send", d.send(1, "EXECUTE p"), 1);
            d.due("send", d.send(1, "X"), 1);
            d.due("send", d.send(1, "COMMIT"), 1);
        }
        begin(d, 2);
        d.ask(2, "SELECT k FROM u", "i SELECT 0 T");
    }

    // "(An S is doomed only as long as it is kept: from its snapshot on"
    private static void doomedFromItsSnapshotOn() {
        Desk d = desk("57014 before its snapshot, and behind it");
        d.ask(1, "BEGIN", "BEGIN T");
        d.ask(1, "LOCK t SHARE", "LOCK T");
        begin(d, 0, 2);
        good(d, 2, "SELECT COUNT(*) FROM u");
        for (int s = 0; s <= 2; s += 2) {
            d.ask(s, "SAVEPOINT x", "SAVEPOINT T");
            d.ask(s, "DELETE FROM t", "waits");
            d.due("cancel", d.x.cancel(s), true);
            d.then(s, "57014 F");
            d.ask(s, "ROLLBACK TO x", s == 0 ? "ROLLBACK T" : "40001 F");
        }
        d.ask(0, "SELECT COUNT(*) FROM u", "i (0) SELECT 1 T");
    }

    // "by 40001, 40P01, 57014 and 53100 at any time, too"
    private static void doomedByErrors() {
        Desk d = desk("53100");
        d.ask(0, "INSERT INTO u VALUES (0)" + Desk.repeat(",(0)", 99), "INSERT 100 I");
        for (int i = 1; i <= 4; i *= 2) {
            d.ask(0, "INSERT INTO u SELECT k FROM u", "INSERT " + 100 * i + " I");
        }
        d.ask(0, "INSERT INTO u SELECT k FROM u LIMIT 200", "INSERT 200 I");
        d.count(1, 1000);
        begin(d, 0);
        d.ask(0, "SELECT k FROM u LIMIT 1", "i (0) SELECT 1 T");
        d.ask(0, "SAVEPOINT x", "SAVEPOINT T");
        d.ask(0, "INSERT INTO u VALUES (1)", "53100 F");
        d.ask(0, "ROLLBACK TO x", "40001 F");
        d.ask(0, "ROLLBACK TO nosuch", "40001 F");
        d.ask(0, "SELECT k FROM u", "25P02 F");
        d.ask(0, "ROLLBACK", "ROLLBACK I");
        d = desk("40P01");
        begin(d, 0);
        good(d, 0, "INSERT INTO u VALUES (1)");
        d.ask(0, "SAVEPOINT x", "SAVEPOINT T");
        d.ask(1, "BEGIN", "BEGIN T");
        d.ask(1, "LOCK t EXCLUSIVE", "LOCK T");
        d.ask(1, "LOCK u EXCLUSIVE", "waits");
        d.ask(0, "DELETE FROM t", "40P01 F");
        d.ask(0, "ROLLBACK TO x", "40001 F");
        d.ask(0, "COMMIT", "COMMIT I");
        d.then(1, "LOCK T");
    }

    private static void notDoomedByOthers() {
        Desk d = desk("other errors");
        begin(d, 0);
        good(d, 0, "INSERT INTO t VALUES (1,1,1,1,'a',TRUE)");
        d.ask(0, "SAVEPOINT x", "SAVEPOINT T");
        String[] texts = {"NONSENSE", "SELECT x FROM t", "SELECT a FROM nosuch", "INSERT INTO t VALUES (1,1,1,1,'a',TRUE)",
            "BEGIN", "RELEASE y", "SELECT 1 FROM t WHERE 1"};
        String[] codes = {"42601", "42703", "42P01", "23505", "25001", "3B001", "42804"};
        for (int i = 0; i < texts.length; i++) {
            d.ask(0, texts[i], codes[i] + " F");
            d.ask(0, "ROLLBACK TO x", "ROLLBACK T");
        }
        d.ask(0, "COMMIT", "COMMIT I");
        d.ask(0, "SELECT COUNT(*) FROM t", "i (1) SELECT 1 I");
    }

    // "In a DOOMED transaction that is not FAILED all but ROLLBACK are 40001 (and it is FAILED then)"
    private static void whenDoomed() {
        String[] texts = {"COMMIT", "BEGIN", "SELECT a FROM t", "SELECT x FROM nosuch", "SAVEPOINT y", "ROLLBACK TO x",
            "ROLLBACK TO nosuch", "RELEASE x", "LOCK t SHARE", "PREPARE p AS SELECT a FROM t", "EXECUTE p", "CHECKPOINT",
            "VACUUM t", "DROP TABLE t", "CREATE TABLE z (k INT)"};
        for (String text : texts) {
            Desk d = chain("doomed: " + text);
            good(d, 1, "SAVEPOINT x");
            d.ask(2, "COMMIT", "COMMIT I");
            d.ask(1, text, "40001 F");
            d.state(1, 3);
            d.ask(1, "COMMIT", "COMMIT I");
            d.ask(0, "SELECT COUNT(*) FROM t", "i (0) SELECT 1 T");
        }
        // Reading goes before it, and ROLLBACK is what it is.
        Desk d = chain("doomed: no statement");
        d.ask(2, "COMMIT", "COMMIT I");
        d.ask(1, "SELECT", "42601 F");
        d = chain("doomed: ROLLBACK");
        d.ask(2, "COMMIT", "COMMIT I");
        d.state(1, 2);
        d.ask(1, "ROLLBACK", "ROLLBACK I");
    }

    // "in one that is ROLLBACK TO"
    private static void whenDoomedAndFailed() {
        Desk d = chain("doomed and failed");
        good(d, 1, "SAVEPOINT x");
        d.ask(1, "SELECT x FROM t", "42703 F");
        d.ask(2, "COMMIT", "COMMIT I");
        d.ask(1, "SELECT a FROM t", "25P02 F");
        d.ask(1, "ROLLBACK TO x", "40001 F");
        d.ask(1, "ROLLBACK TO x", "40001 F");
        d.ask(1, "SAVEPOINT x", "25P02 F");
        d.ask(1, "COMMIT", "COMMIT I");
        // Behind an error at level 0 it is not kept, and not doomed.
        d = chain("failed at level 0");
        d.ask(1, "SELECT x FROM t", "42703 F");
        d.ask(2, "COMMIT", "COMMIT I");
        d.ask(1, "ROLLBACK TO x", "3B001 F");
        d.ask(1, "COMMIT", "COMMIT I");
    }

    // "a statement of it that had waited fails with 40001 when it has read, ... or has made or ended a version"
    private static void waitedAndDoomed() {
        String[] texts = {"SELECT COUNT(*) FROM u", "INSERT INTO u VALUES (1)", "DELETE FROM u", "LOCK u SHARE",
            "INSERT INTO u SELECT k FROM u"};
        for (String text : texts) {
            Desk d = chain("waited and doomed: " + text);
            d.ask(3, "BEGIN", "BEGIN T");
            d.ask(3, "LOCK u ACCESS EXCLUSIVE", "LOCK T");
            d.ask(1, text, "waits");
            d.ask(2, "COMMIT", "COMMIT I");
            d.state(1, 6);
            d.ask(3, "COMMIT", "COMMIT I");
            // LOCK reads and writes nothing.
            d.then(1, text.startsWith("LOCK") ? "LOCK T" : "40001 F");
            d.ask(1, "COMMIT", text.startsWith("LOCK") ? "40001 F" : "COMMIT I");
        }
    }

    private static void lookOfADoomedOne() {
        Desk d = chain("waited for a unique value, and doomed");
        d.ask(3, "BEGIN", "BEGIN T");
        d.ask(3, "INSERT INTO t VALUES (77,9,9,9,'z',TRUE)", "INSERT 1 T");
        d.ask(1, "INSERT INTO t VALUES (77,9,9,9,'z',TRUE)", "waits");
        d.ask(2, "COMMIT", "COMMIT I");
        d.ask(3, "ROLLBACK", "ROLLBACK I");
        d.then(1, "40001 F");
        d.count(2, 3);
    }
}
