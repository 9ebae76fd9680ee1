/** Promises 4, 5, 7 and 12, sentence by sentence: the bounds of locks, waits and rings (LOCKS AND WAITING). */
public final class BoundsOfWaitingTest {
    public static void main(String[] args) {
        heldAlready();
        heldAlreadyOfAnotherTable();
        ownLocks();
        twoOfOneTable();
        behindOneThatAsked();
        besideOneThatAsked();
        fromTheLeft();
        oneWaitForEach();
        droppedWhileItWaits();
        droppedBehindAnotherWait();
        anotherOfThatName();
        orderOfWaiting();
        whoWaitsAgainIsLast();
        anewFromTheFirst();
        behindTheAnswer();
        numberOfALevel();
        ringOfTwo();
        ringOfSix();
        ringOfLocks();
        ringOfOneOfSeveral();
        ringOfRequests();
        ringOfOneStatement();
        noRingBehindAnEnd();
        ringWhenItGoesOn();
        fiveWait();
        cancelInATransaction();
        cancelFreesThoseBehind();
        closeFreesThoseBehind();
        leastNumber();
        Desk.end("BoundsOfWaitingTest");
    }

    private static Desk desk(String name) {
        Desk d = Desk.with(name, 6);
        d.ask(0, "CREATE TABLE t (k INT UNIQUE, v INT)", "CREATE I");
        d.ask(0, "CREATE TABLE u (k INT)", "CREATE I");
        d.ask(0, "INSERT INTO t VALUES (0,0),(1,10),(2,20),(3,30),(4,40),(5,50)", "INSERT 6 I");
        return d;
    }

    private static void begin(Desk d, int... sessions) {
        for (int s : sessions) {
            d.ask(s, "BEGIN", "BEGIN T");
        }
    }

    // "but one that the transaction holds already (for the table, this mode) is had at once"
    private static void heldAlready() {
        Desk d = desk("held already");
        begin(d, 0, 1);
        d.ask(0, "LOCK t SHARE", "LOCK T");
        d.ask(1, "LOCK t ROW EXCLUSIVE", "waits");
        d.ask(0, "SAVEPOINT a", "SAVEPOINT T");
        // Held by a level below: had at once. Another mode, though it is a lower one, is not: it is a ring here.
        d.ask(0, "LOCK t SHARE", "LOCK T");
        d.ask(0, "ROLLBACK TO a", "ROLLBACK T");
        d.state(1, 6);
        d.ask(0, "LOCK t SHARE ROW EXCLUSIVE", "40P01 F");
        d.state(1, 6);
        d.ask(0, "ROLLBACK TO a", "ROLLBACK T");
        d.ask(0, "LOCK t SHARE", "LOCK T");
        d.ask(0, "LOCK t ACCESS SHARE", "LOCK T");
        d.ask(0, "COMMIT", "COMMIT I");
        d.then(1, "LOCK T");
    }

    private static void heldAlreadyOfAnotherTable() {
        Desk d = desk("held already, for the table");
        begin(d, 0, 1);
        d.ask(0, "LOCK t SHARE", "LOCK T");
        d.ask(1, "LOCK u ROW EXCLUSIVE", "LOCK T");
        d.ask(0, "LOCK u SHARE", "waits");
        d.ask(1, "COMMIT", "COMMIT I");
        d.then(0, "LOCK T");
        // A lock that went with its level is held no more.
        d.ask(0, "SAVEPOINT a", "SAVEPOINT T");
        d.ask(0, "LOCK u EXCLUSIVE", "LOCK T");
        d.ask(0, "ROLLBACK TO a", "ROLLBACK T");
        begin(d, 1);
        d.ask(1, "LOCK u ROW SHARE", "LOCK T");
        d.ask(0, "LOCK u EXCLUSIVE", "waits");
    }

    // "Modes conflict (between transactions)"
    private static void ownLocks() {
        Desk d = desk("own locks");
        begin(d, 0);
        for (String mode : new String[] {"ACCESS EXCLUSIVE", "SHARE", "ROW EXCLUSIVE", "EXCLUSIVE", "ACCESS SHARE",
            "SHARE UPDATE EXCLUSIVE", "ROW SHARE", "SHARE ROW EXCLUSIVE", "ACCESS EXCLUSIVE"}) {
            d.ask(0, "LOCK t " + mode, "LOCK T");
        }
        d.ask(0, "INSERT INTO t SELECT k + 10, v FROM t FOR UPDATE", "0A000 F");
        d.ask(0, "ROLLBACK", "ROLLBACK I");
        begin(d, 0);
        d.ask(0, "LOCK t ACCESS EXCLUSIVE", "LOCK T");
        d.ask(0, "INSERT INTO t SELECT k + 10, v FROM t", "INSERT 6 T");
        d.ask(0, "SELECT COUNT(*) FROM t", "i (12) SELECT 1 T");
    }

    private static void twoOfOneTable() {
        Desk d = desk("two of one table");
        begin(d, 1);
        d.ask(1, "LOCK t ROW EXCLUSIVE", "LOCK T");
        // INSERT's 3 and its query's 1 of the same table; SHARE conflicts with the first alone.
        d.ask(0, "INSERT INTO t SELECT k + 10, v FROM t", "INSERT 6 I");
        d.ask(1, "LOCK t SHARE", "LOCK T");
        d.ask(0, "SELECT COUNT(*) FROM t a, t b", "i (144) SELECT 1 I");
        d.ask(0, "INSERT INTO t SELECT k + 20, v FROM t", "waits");
    }

    // "or with one that another session asked for earlier and waits for"
    private static void behindOneThatAsked() {
        Desk d = desk("behind one that asked");
        begin(d, 0, 1, 2);
        d.ask(0, "LOCK t ROW SHARE", "LOCK T");
        d.ask(1, "LOCK t EXCLUSIVE", "waits");
        // 2 conflicts with what 1 asked for, not with what 0 holds.
        d.ask(2, "LOCK t ROW SHARE", "waits");
        d.ask(3, "SELECT k FROM t WHERE k = 1", "i (1) SELECT 1 I");
        d.due("cancel", d.x.cancel(1), true);
        d.then(1, "57014 F");
        d.then(2, "LOCK T");
    }

    // One that asked later is not in the way of one that asked earlier.
    private static void besideOneThatAsked() {
        Desk d = desk("one that asked later");
        begin(d, 0, 1, 2, 3);
        d.ask(0, "LOCK t ACCESS SHARE", "LOCK T");
        d.ask(3, "LOCK t ROW EXCLUSIVE", "LOCK T");
        d.ask(1, "LOCK t SHARE", "waits");
        d.ask(2, "LOCK t ACCESS EXCLUSIVE", "waits");
        d.ask(3, "COMMIT", "COMMIT I");
        d.then(1, "LOCK T");
        d.state(2, 6);
        d.ask(0, "COMMIT", "COMMIT I");
        d.state(2, 6);
        d.ask(1, "COMMIT", "COMMIT I");
        d.then(2, "LOCK T");
    }

    // "taken for the tables of a statement from the left"
    private static void fromTheLeft() {
        Desk d = desk("from the left");
        begin(d, 0);
        d.ask(0, "LOCK u ACCESS EXCLUSIVE", "LOCK T");
        // It holds t while it waits for u.
        d.ask(1, "SELECT t.k FROM t, u", "waits");
        d.ask(2, "DROP TABLE t", "waits");
        d.ask(3, "SELECT u.k FROM u, t", "waits");
        d.due("cancel", d.x.cancel(2), true);
        d.due("cancel", d.x.cancel(1), true);
        // 3 waits for u first, and holds nothing of t.
        d.ask(2, "DROP TABLE t", "DROP I");
        d.ask(0, "COMMIT", "COMMIT I");
        d.then(3, "42P01 I");
    }

    // A table lock that is had says nothing of the next one.
    private static void oneWaitForEach() {
        Desk d = desk("one wait for each table");
        begin(d, 0, 2);
        d.ask(0, "LOCK t ACCESS EXCLUSIVE", "LOCK T");
        d.ask(2, "LOCK u ACCESS EXCLUSIVE", "LOCK T");
        d.ask(1, "SELECT 1 FROM t, u", "waits");
        d.ask(0, "COMMIT", "COMMIT I");
        d.state(1, 5);
        d.ask(2, "COMMIT", "COMMIT I");
        d.then(1, "i SELECT 0 I");
    }

    // "When a table is dropped, statements that wait for it go on with 42P01"
    private static void droppedWhileItWaits() {
        Desk d = desk("dropped while it waits");
        begin(d, 0, 2, 3);
        d.ask(0, "LOCK t ACCESS SHARE", "LOCK T");
        d.ask(1, "DROP TABLE t", "waits");
        d.ask(2, "SELECT k FROM t", "waits");
        d.ask(3, "SAVEPOINT a", "SAVEPOINT T");
        d.ask(3, "LOCK t EXCLUSIVE", "waits");
        d.ask(4, "DROP TABLE t", "waits");
        d.ask(5, "CREATE INDEX ON t (v)", "waits");
        d.ask(0, "COMMIT", "COMMIT I");
        d.then(1, "DROP I");
        d.then(2, "42P01 F");
        d.then(3, "42P01 F");
        d.then(4, "42P01 I");
        d.then(5, "42P01 I");
        d.count(5, 1);
        d.count(8, 0);
        d.ask(3, "ROLLBACK TO a", "ROLLBACK T");
    }

    // "so does one that comes to it behind another wait"
    private static void droppedBehindAnotherWait() {
        Desk d = desk("dropped behind another wait");
        begin(d, 0);
        d.ask(0, "LOCK u EXCLUSIVE", "LOCK T");
        d.ask(1, "INSERT INTO u SELECT k FROM t", "waits");
        d.ask(2, "DROP TABLE t", "DROP I");
        d.state(1, 5);
        d.ask(0, "COMMIT", "COMMIT I");
        d.then(1, "42P01 I");
        d.ask(0, "SELECT COUNT(*) FROM u", "i (0) SELECT 1 I");
    }

    // "(a new table of that name is another one)"
    private static void anotherOfThatName() {
        Desk d = desk("another of that name");
        begin(d, 0);
        d.ask(0, "LOCK u EXCLUSIVE", "LOCK T");
        d.ask(1, "INSERT INTO u SELECT k FROM t", "waits");
        d.ask(2, "DROP TABLE t", "DROP I");
        d.ask(2, "CREATE TABLE t (k INT UNIQUE, v INT)", "CREATE I");
        d.ask(0, "COMMIT", "COMMIT I");
        d.then(1, "42P01 I");
        d.ask(1, "INSERT INTO u SELECT k FROM t", "INSERT 0 I");
    }

    // "the sessions that wait are looked at in the order in which they began to wait"
    private static void orderOfWaiting() {
        Desk d = desk("the order of waiting");
        begin(d, 0);
        d.ask(0, "DELETE FROM t WHERE k = 0", "DELETE 1 T");
        // Who inserts 0 first has it; the others wait for none any more.
        for (int s : new int[] {4, 2, 5, 1, 3}) {
            d.ask(s, "INSERT INTO t VALUES (0, " + s + ")", "waits");
        }
        d.ask(0, "COMMIT", "COMMIT I");
        d.then(4, "INSERT 1 I");
        for (int s : new int[] {2, 5, 1, 3}) {
            d.then(s, "23505 I");
        }
        d.ask(0, "SELECT v FROM t WHERE k = 0", "i (4) SELECT 1 I");
    }

    // "(who waits again is the last one)"
    private static void whoWaitsAgainIsLast() {
        Desk d = desk("who waits again is the last one");
        begin(d, 0, 1);
        d.ask(0, "UPDATE t SET v = 1 WHERE k = 0", "UPDATE 1 T");
        d.ask(1, "UPDATE t SET v = 1 WHERE k = 5", "UPDATE 1 T");
        d.ask(2, "UPDATE t SET v = v + 2 WHERE k = 0 OR k = 5", "waits");
        d.ask(3, "UPDATE t SET v = v * 10 WHERE k = 5", "waits");
        d.ask(0, "COMMIT", "COMMIT I");
        // 2 goes on, and waits again, for 5, behind 3 now.
        d.state(2, 5);
        d.ask(1, "COMMIT", "COMMIT I");
        d.then(3, "UPDATE 1 I");
        d.then(2, "UPDATE 2 I");
        d.ask(0, "SELECT v FROM t WHERE k = 5", "i (12) SELECT 1 I");
    }

    // "the first that can goes on as far as it can, and they are looked at anew from the first, until none can"
    private static void anewFromTheFirst() {
        Desk d = desk("anew from the first");
        begin(d, 0);
        d.ask(0, "UPDATE t SET v = 1 WHERE k = 0", "UPDATE 1 T");
        begin(d, 1);
        d.ask(1, "UPDATE t SET v = 1 WHERE k = 1", "UPDATE 1 T");
        // 2 waits on 1; 1 waits on 0, and its end lets 2 go on before 3, which waits on 0 too.
        d.ask(2, "UPDATE t SET v = v + 1 WHERE k = 1", "waits");
        d.ask(1, "UPDATE t SET v = v + 1 WHERE k = 0", "waits");
        d.ask(3, "INSERT INTO u SELECT v FROM t WHERE k = 1", "INSERT 1 I");
        d.ask(4, "DELETE FROM t WHERE k = 0", "waits");
        d.ask(0, "COMMIT", "COMMIT I");
        d.then(1, "UPDATE 1 T");
        d.state(2, 5);
        d.state(4, 5);
        d.ask(1, "COMMIT", "COMMIT I");
        d.then(2, "UPDATE 1 I");
        d.then(4, "DELETE 1 I");
        d.ask(0, "SELECT v FROM t WHERE k < 2", "i (2) SELECT 1 I");
    }

    // "(within the same call, behind the answer of the statement that did it)"
    private static void behindTheAnswer() {
        Desk d = desk("behind the answer");
        begin(d, 0);
        d.ask(0, "UPDATE t SET v = 1 WHERE k = 0", "UPDATE 1 T");
        d.ask(1, "DELETE FROM t WHERE k = 0", "waits");
        d.due("send", d.send(0, "ROLLBACK"), 1);
        d.state(1, 1);
        d.then(0, "ROLLBACK I");
        d.then(1, "DELETE 1 I");
        // A query of one's own that ends has locks that end with it.
        begin(d, 0);
        d.ask(0, "SELECT k FROM t WHERE k = 1 FOR UPDATE", "i (1) SELECT 1 T");
        d.ask(1, "SELECT k FROM t WHERE k = 1 FOR UPDATE", "waits");
        d.ask(2, "DROP TABLE t", "waits");
        d.ask(0, "COMMIT", "COMMIT I");
        d.then(1, "i (1) SELECT 1 I");
        d.then(2, "DROP I");
    }

    // "A session that waits FOR a number goes on when that is not running any more"
    private static void numberOfALevel() {
        Desk d = desk("the number of a level");
        begin(d, 0);
        d.ask(0, "UPDATE t SET v = 1 WHERE k = 0", "UPDATE 1 T");
        d.ask(0, "SAVEPOINT a", "SAVEPOINT T");
        d.ask(0, "UPDATE t SET v = 1 WHERE k = 1", "UPDATE 1 T");
        d.ask(1, "UPDATE t SET v = 2 WHERE k = 0", "waits");
        d.ask(2, "UPDATE t SET v = 2 WHERE k = 1", "waits");
        d.ask(0, "ROLLBACK TO a", "ROLLBACK T");
        d.state(1, 5);
        d.then(2, "UPDATE 1 I");
        d.ask(0, "RELEASE a", "RELEASE T");
        d.state(1, 5);
        d.ask(0, "NONSENSE", "42601 F");
        d.then(1, "UPDATE 1 I");
    }

    // "A wait by which a session would wait, in some steps, on itself, is not begun: 40P01."
    private static void ringOfTwo() {
        Desk d = desk("a ring of two");
        begin(d, 0, 1);
        d.ask(0, "UPDATE t SET v = 1 WHERE k = 0", "UPDATE 1 T");
        d.ask(1, "UPDATE t SET v = 1 WHERE k = 1", "UPDATE 1 T");
        d.ask(0, "UPDATE t SET v = 1 WHERE k = 1", "waits");
        d.ask(1, "UPDATE t SET v = 1 WHERE k = 0", "40P01 F");
        d.then(0, "UPDATE 1 T");
        d.ask(1, "COMMIT", "COMMIT I");
    }

    private static void ringOfSix() {
        Desk d = desk("a ring of six");
        begin(d, 0, 1, 2, 3, 4, 5);
        for (int s = 0; s < 6; s++) {
            d.ask(s, "UPDATE t SET v = 1 WHERE k = " + s, "UPDATE 1 T");
        }
        for (int s = 0; s < 5; s++) {
            d.ask(s, "UPDATE t SET v = 2 WHERE k = " + (s + 1), "waits");
        }
        d.count(8, 5);
        d.ask(5, "UPDATE t SET v = 2 WHERE k = 0", "40P01 F");
        d.then(4, "UPDATE 1 T");
        d.count(8, 4);
        for (int s = 4; s > 0; s--) {
            d.ask(s, "COMMIT", "COMMIT I");
            d.then(s - 1, "UPDATE 1 T");
        }
        d.count(8, 0);
    }

    // "one that waits for a table lock on each that holds ... what is in its way"
    private static void ringOfLocks() {
        Desk d = desk("two that hold SHARE");
        begin(d, 0, 1, 2);
        d.ask(0, "LOCK t SHARE", "LOCK T");
        d.ask(1, "LOCK t SHARE", "LOCK T");
        d.ask(0, "DELETE FROM t", "waits");
        d.ask(1, "DELETE FROM t", "40P01 F");
        d.then(0, "DELETE 6 T");
        // On each: 2 holds as well, and what it waits for closes the ring.
        d = desk("on each that holds");
        begin(d, 0, 1, 2);
        d.ask(0, "LOCK u EXCLUSIVE", "LOCK T");
        d.ask(1, "LOCK t SHARE", "LOCK T");
        d.ask(2, "LOCK t SHARE", "LOCK T");
        d.ask(0, "DELETE FROM t", "waits");
        d.ask(2, "DELETE FROM u", "40P01 F");
        d.state(0, 6);
        d.ask(1, "COMMIT", "COMMIT I");
        d.then(0, "DELETE 6 T");
    }

    // Of several that are in the way any one may close the ring, whatever the others wait on.
    private static void ringOfOneOfSeveral() {
        for (int closing = 0; closing < 2; closing++) {
            for (int way = 0; way < 2; way++) {
                Desk d = desk("a ring by one of two, " + closing + way);
                int other = 1 - closing;
                begin(d, 0, 1, 2, 3);
                d.ask(0, "LOCK t SHARE", "LOCK T");
                d.ask(1, "LOCK t SHARE", "LOCK T");
                d.ask(2, way == 0 ? "LOCK u EXCLUSIVE" : "SELECT k FROM t WHERE k = 2 FOR UPDATE",
                    way == 0 ? "LOCK T" : "i (2) SELECT 1 T");
                d.ask(3, "SELECT k FROM t WHERE k = 3 FOR UPDATE", "i (3) SELECT 1 T");
                d.ask(other, way == 0 ? "LOCK u SHARE" : "SELECT k FROM t WHERE k = 2 FOR UPDATE", "waits");
                d.ask(closing, "SELECT k FROM t WHERE k = 3 FOR UPDATE", "waits");
                d.ask(3, "LOCK t ROW EXCLUSIVE", "40P01 F");
                d.then(closing, "i (3) SELECT 1 T");
                d.state(other, 6);
            }
        }
    }

    // "or asked for earlier, what is in its way"
    private static void ringOfRequests() {
        Desk d = desk("a ring by what was asked for");
        begin(d, 0, 1, 2);
        d.ask(0, "LOCK t ROW SHARE", "LOCK T");
        d.ask(2, "LOCK u EXCLUSIVE", "LOCK T");
        d.ask(1, "LOCK t EXCLUSIVE", "waits");
        // 2 waits on 1 alone, by what that asked for; 1 waits on 0.
        d.ask(2, "LOCK t ROW SHARE", "waits");
        d.ask(0, "DELETE FROM u", "40P01 F");
        d.then(1, "LOCK T");
        d.state(2, 6);
        d.ask(1, "COMMIT", "COMMIT I");
        d.then(2, "LOCK T");
    }

    // "A statement without a transaction of its own ... may wait as well: others wait on its session."
    private static void ringOfOneStatement() {
        Desk d = desk("a statement without a transaction");
        begin(d, 0);
        d.ask(0, "LOCK u ACCESS EXCLUSIVE", "LOCK T");
        d.ask(1, "SELECT 1 FROM t, u", "waits");
        d.ask(0, "LOCK t ACCESS EXCLUSIVE", "40P01 F");
        d.then(1, "i SELECT 0 I");
        d.ask(0, "ROLLBACK", "ROLLBACK I");
        // It may be the one that fails: its first row is locked, its second another's.
        begin(d, 0);
        d.ask(0, "UPDATE t SET v = 1 WHERE k = 1", "UPDATE 1 T");
        d.ask(1, "UPDATE t SET v = 2 WHERE k < 2", "waits");
        d.ask(0, "UPDATE t SET v = 1 WHERE k = 0", "40P01 F");
        d.then(1, "UPDATE 2 I");
    }

    // Who waits for what has just ended waits on nobody.
    private static void noRingBehindAnEnd() {
        Desk d = desk("no ring behind an end");
        begin(d, 0, 1, 2);
        d.ask(2, "UPDATE t SET v = 2 WHERE k = 2", "UPDATE 1 T");
        d.ask(1, "UPDATE t SET v = 1 WHERE k = 1", "UPDATE 1 T");
        d.ask(0, "UPDATE t SET v = 0 WHERE k = 0 OR k = 4", "UPDATE 2 T");
        // Both wait on 0. When 0 ends, 1 goes on to wait on 2, which waits on nobody any more.
        d.ask(1, "UPDATE t SET v = v + 1 WHERE k = 0 OR k = 2", "waits");
        d.ask(2, "INSERT INTO t VALUES (4, 9)", "waits");
        d.ask(0, "COMMIT", "COMMIT I");
        d.then(2, "23505 F");
        d.then(1, "UPDATE 2 T");
    }

    // A wait that is begun anew may close a ring as well.
    private static void ringWhenItGoesOn() {
        Desk d = desk("a ring when it goes on");
        begin(d, 0, 1, 2);
        d.ask(0, "UPDATE t SET v = 0 WHERE k = 0", "UPDATE 1 T");
        d.ask(1, "UPDATE t SET v = 1 WHERE k = 3", "UPDATE 1 T");
        d.ask(2, "UPDATE t SET v = 2 WHERE k = 2", "UPDATE 1 T");
        d.ask(1, "UPDATE t SET v = 1 WHERE k = 0 OR k = 2", "waits");
        d.ask(2, "UPDATE t SET v = 2 WHERE k = 3", "waits");
        d.ask(0, "COMMIT", "COMMIT I");
        d.then(1, "40P01 F");
        d.then(2, "UPDATE 1 T");
    }

    // Five of six may wait.
    private static void fiveWait() {
        Desk d = desk("five wait");
        begin(d, 0);
        d.ask(0, "LOCK t ACCESS EXCLUSIVE", "LOCK T");
        for (int s = 1; s < 6; s++) {
            d.ask(s, "SELECT COUNT(*) FROM t", "waits");
            d.count(8, s);
            d.state(s, 5);
        }
        d.ask(0, "ROLLBACK", "ROLLBACK I");
        d.count(8, 0);
        for (int s = 1; s < 6; s++) {
            d.then(s, "i (6) SELECT 1 I");
        }
    }

    // "cancel() ends a wait with 57014", "an error like others"
    private static void cancelInATransaction() {
        Desk d = desk("cancel in a transaction");
        begin(d, 0, 1);
        d.ask(0, "UPDATE t SET v = 0 WHERE k = 0", "UPDATE 1 T");
        d.ask(1, "UPDATE t SET v = 1 WHERE k = 1", "UPDATE 1 T");
        d.ask(1, "SAVEPOINT a", "SAVEPOINT T");
        d.ask(1, "UPDATE t SET v = 2 WHERE k = 2 OR k = 0", "waits");
        d.ask(2, "UPDATE t SET v = 3 WHERE k = 1", "waits");
        d.due("cancel", d.x.cancel(1), true);
        d.then(1, "57014 F");
        d.state(2, 5);
        d.ask(1, "ROLLBACK TO a", "ROLLBACK T");
        d.ask(1, "SELECT v FROM t WHERE k < 3", "i (0) (1) (20) SELECT 3 T");
        d.ask(1, "COMMIT", "COMMIT I");
        d.then(2, "UPDATE 1 I");
    }

    // "others go on"
    private static void cancelFreesThoseBehind() {
        Desk d = desk("cancel frees those behind");
        begin(d, 0);
        d.ask(0, "LOCK t ACCESS SHARE", "LOCK T");
        d.ask(1, "DROP TABLE t", "waits");
        d.ask(2, "INSERT INTO t VALUES (7, 70)", "waits");
        d.ask(3, "SELECT COUNT(*) FROM t", "waits");
        d.due("cancel of one that is not in the way", d.x.cancel(2), true);
        d.state(3, 5);
        d.due("cancel", d.x.cancel(1), true);
        d.then(1, "57014 I");
        d.then(2, "57014 I");
        d.then(3, "i (6) SELECT 1 I");
    }

    private static void closeFreesThoseBehind() {
        Desk d = desk("close frees those behind");
        begin(d, 0);
        d.ask(0, "LOCK t ACCESS SHARE", "LOCK T");
        d.ask(1, "DROP TABLE t", "waits");
        d.ask(3, "SELECT COUNT(*) FROM t", "waits");
        d.due("close", d.x.close(1), true);
        d.then(3, "i (6) SELECT 1 I");
        d.state(1, 0);
        d.ask(0, "COMMIT", "COMMIT I");
        d.ask(0, "SELECT COUNT(*) FROM t", "i (6) SELECT 1 I");
    }

    // "it waits for the least such number, then treats the target again"
    private static void leastNumber() {
        for (int first = 1; first <= 2; first++) {
            int second = 3 - first;
            Desk d = desk("the least number, of " + first);
            begin(d, first, second, 3);
            d.ask(first, "SELECT k FROM t WHERE k = 0 FOR SHARE", "i (0) SELECT 1 T");
            d.ask(second, "SELECT k FROM t WHERE k = 0 FOR SHARE", "i (0) SELECT 1 T");
            d.ask(3, "UPDATE t SET v = 3 WHERE k = 3", "UPDATE 1 T");
            d.ask(3, "UPDATE t SET v = 3 WHERE k = 0", "waits");
            // It waits on the first alone: the second may wait on it.
            d.ask(second, "UPDATE t SET v = 2 WHERE k = 3", "waits");
            d.ask(first, "UPDATE t SET v = 2 WHERE k = 3", "40P01 F");
            // The first's lock is gone with the error: now it would wait on the second.
            d.then(3, "40P01 F");
            d.then(second, "UPDATE 1 T");
        }
    }
}
