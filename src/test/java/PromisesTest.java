/** Promise by promise, each sentence of it quoted: what holds, at its edges, and with wrong inputs. */
public final class PromisesTest {
    private static final int NO_SESSION = 6;

    public static void main(String[] args) {
        promise1();
        promise2();
        promise3();
        promise4();
        promise5();
        promise6();
        promise7();
        promise8();
        promise9();
        promise10();
        promise11();
        promise12();
        Desk.end("PromisesTest");
    }

    /** A server with n sessions and a table t (k INT) that holds 1 and 2. */
    private static Desk withTable(String name, int n) {
        Desk d = Desk.with(name, n);
        d.ask(0, "CREATE TABLE t (k INT)", "CREATE I");
        d.ask(0, "INSERT INTO t VALUES (1), (2)", "INSERT 2 I");
        return d;
    }

    /** Session 0 has ended the row 1 in a transaction, session 1 waits for that. */
    private static Desk withWait(String name) {
        Desk d = withTable(name, 3);
        d.ask(0, "BEGIN", "BEGIN T");
        d.ask(0, "DELETE FROM t WHERE k = 1", "DELETE 1 T");
        d.ask(1, "UPDATE t SET k = k + 10 WHERE k = 1", "waits");
        return d;
    }

    /** "It is up; no tables; no session is open." */
    private static void promise1() {
        Desk d = new Desk("promise 1");
        d.due("all", d.all(), "states 0 0 0 0 0 0, counts 1 0 0 0 0 0 0 0 0");
        d.due("start of what is up", d.x.start(), false);
        for (int s = 0; s < NO_SESSION; s++) {
            d.due("send", d.x.send(s, 1), 0);
            d.due("fetch", d.x.fetch(s), 0L);
            d.due("cancel", d.x.cancel(s), false);
            d.due("close", d.x.close(s), false);
        }
        d.due("open", d.x.open(0), true);
        d.ask(0, "SELECT k FROM t", "42P01 I");
        SessionServer other = new SessionServer();
        d.due("another object knows nothing of the first", other.state(0), 0);
    }

    /**
     * "20 bytes come behind the tape, the highest of a first, also while the server is down: true; false if 2000 are
     * there."
     */
    private static void promise2() {
        Desk d = withTable("promise 2", 1);
        // "ROLL", "BACK", then nothing that counts; then "SELE", "CT k", " FRO", "M t ", "WHER", "E k ", "> 1 ".
        d.due("feed", d.x.feed(0x524f4c4c, 0x4241434b, 0x20202020, 0x20202020, 0x20202020), true);
        d.count(7, 20);
        d.due("send", d.x.send(0, 20), 1);
        d.then(0, "25P01 I");
        d.due("feed", d.x.feed(0x53454c45, 0x4354206b, 0x2046524f, 0x4d207420, 0x57484552), true);
        d.due("feed", d.x.feed(0x45206b20, 0x3e203120, -1, Integer.MIN_VALUE, 0), true);
        d.count(7, 40);
        d.due("send", d.x.send(0, 28), 1);
        d.then(0, "i (2) SELECT 1 I");
        d.due("charge", d.x.charge(0), true);
        d.ask(0, "CHECKPOINT", "power");
        for (int i = 1; i <= 100; i++) {
            d.due("feed while down", d.x.feed(i, i, i, i, i), true);
        }
        d.refused("feed while 2000 are there", () -> d.x.feed(0, 0, 0, 0, 0), false);
        d.count(7, 2000);
    }

    /** "A session opens: true; false if there is no such one, it is open, or the server is down." */
    private static void promise3() {
        Desk d = new Desk("promise 3");
        for (int s = 0; s < NO_SESSION; s++) {
            int session = s;
            d.due("open " + s, d.x.open(s), true);
            d.state(s, 1);
            d.refused("open " + s + " again", () -> d.x.open(session), false);
        }
        for (int s : new int[] {-1, NO_SESSION, Integer.MIN_VALUE, Integer.MAX_VALUE}) {
            d.refused("open " + s, () -> d.x.open(s), false);
        }
        d.due("charge", d.x.charge(0), true);
        d.ask(5, "CHECKPOINT", "power");
        d.refused("open while down", () -> d.x.open(0), false);
        d.due("start", d.x.start(), true);
        d.due("open", d.x.open(0), true);
    }

    /**
     * "A session closes, its transaction is rolled back, a wait ended, what it prepared is gone, others go on:
     * true".
     */
    private static void promise4() {
        Desk d = withWait("promise 4");
        d.ask(2, "UPDATE t SET k = k + 20 WHERE k = 1", "waits");
        d.due("close of one that waits", d.x.close(1), true);
        d.state(1, 0);
        d.count(8, 1);
        d.due("close of one with a transaction", d.x.close(0), true);
        d.then(2, "UPDATE 1 I");
        d.ask(2, "SELECT k FROM t", "i (2) (21) SELECT 2 I");
        d.ask(2, "PREPARE p AS SELECT k FROM t", "PREPARE I");
        d.due("close", d.x.close(2), true);
        d.due("open", d.x.open(2), true);
        d.ask(2, "EXECUTE p", "26000 I");
        for (int s : new int[] {0, -1, NO_SESSION}) {
            d.refused("close " + s, () -> d.x.close(s), false);
        }
        Desk power = withWait("promise 4, the power");
        power.due("charge", power.x.charge(0), true);
        power.due("close, and the power goes with the other's version", power.x.close(0), true);
        power.count(0, 0);
        power.refused("close while down", () -> power.x.close(1), false);
    }

    /**
     * "1 it is answered, 2 it waits, 3 the power went. 0, refused (the tape stays), if the session is not open or
     * waits, or n is not 1 .. the bytes that there are."
     */
    private static void promise5() {
        Desk d = withWait("promise 5");
        d.due("feed", d.x.feed(0x434f4d4d, 0x49542020, 0x20202020, 0x20202020, 0x20202020), true);
        for (int n : new int[] {0, -1, 21, Integer.MIN_VALUE, Integer.MAX_VALUE}) {
            d.refused("send of " + n, () -> d.x.send(0, n), 0);
        }
        for (int s : new int[] {1, 5, -1, NO_SESSION}) {
            d.refused("send of session " + s, () -> d.x.send(s, 20), 0);
        }
        d.count(7, 20);
        d.due("send", d.x.send(0, 20), 1);
        d.count(7, 0);
        d.then(0, "COMMIT I");
        d.then(1, "UPDATE 0 I");
        d.due("charge", d.x.charge(0), true);
        d.ask(1, "INSERT INTO t VALUES (3)", "power");
        d.count(7, 0);
    }

    /**
     * "The next bytes of a session's answer, at most 7, which are taken: in the highest byte how many, then these,
     * the first one highest; 0 if there are none, it waits, or is not open."
     */
    private static void promise6() {
        Desk d = withWait("promise 6");
        d.refused("fetch of one that waits", () -> d.x.fetch(1), 0L);
        d.due("send", d.send(0, "SELECT k FROM t"), 1);
        // T 0 2 1 i, D 0 2 1 2, C 0 8 S E L E C T blank 1, Z 0 1 T.
        d.due("fetch", Long.toHexString(d.x.fetch(0)), "754000201694400");
        d.due("fetch", Long.toHexString(d.x.fetch(0)), "702013243000853");
        d.due("fetch", Long.toHexString(d.x.fetch(0)), "7454c4543542031");
        d.due("fetch", Long.toHexString(d.x.fetch(0)), "45a000154000000");
        for (int s : new int[] {0, 1, 5, -1, NO_SESSION}) {
            d.refused("fetch of " + s, () -> d.x.fetch(s), 0L);
        }
    }

    /**
     * "The wait of a session ends with 57014, an error like others; others go on: true, also if the power goes in
     * the call; false if it does not wait."
     */
    private static void promise7() {
        Desk d = withWait("promise 7");
        for (int s : new int[] {0, 2, 5, -1, NO_SESSION}) {
            d.refused("cancel of " + s, () -> d.x.cancel(s), false);
        }
        d.due("cancel", d.x.cancel(1), true);
        d.then(1, "57014 I");
        d.state(1, 1);
        // Session 1 asks for a lock that session 0 keeps it from, session 2 for one that session 1 keeps it from.
        d.ask(1, "DROP TABLE t", "waits");
        d.ask(2, "INSERT INTO t VALUES (5)", "waits");
        d.due("cancel", d.x.cancel(1), true);
        d.then(1, "57014 I");
        d.then(2, "INSERT 1 I");
        d.ask(1, "DROP TABLE t", "waits");
        d.ask(2, "INSERT INTO t VALUES (5)", "waits");
        d.due("charge", d.x.charge(0), true);
        d.due("cancel, and the power goes with the other's version", d.x.cancel(1), true);
        d.count(0, 0);
    }

    /**
     * "The power goes at the (n + 1)-th point from now on (an earlier charge counts no more): true; false if n is
     * not 0 .. 999, or the server is down."
     */
    private static void promise8() {
        Desk d = withTable("promise 8", 1);
        for (int n : new int[] {-1, 1000, Integer.MIN_VALUE, Integer.MAX_VALUE}) {
            d.refused("charge " + n, () -> d.x.charge(n), false);
        }
        d.due("charge 999", d.x.charge(999), true);
        d.due("charge 3", d.x.charge(3), true);
        // A version made, before the commit, behind it: three points; then the next one.
        d.ask(0, "INSERT INTO t VALUES (3)", "INSERT 1 I");
        d.ask(0, "DELETE FROM t WHERE k = 1", "power");
        d.refused("charge while down", () -> d.x.charge(0), false);
        d.due("start", d.x.start(), true);
        d.due("open", d.x.open(0), true);
        d.ask(0, "SELECT k FROM t", "i (1) (2) (3) SELECT 3 I");
    }

    /** "The server, which is down, is up again: true; false if it is up." */
    private static void promise9() {
        Desk d = withWait("promise 9");
        d.refused("start while up", () -> d.x.start(), false);
        d.due("charge", d.x.charge(0), true);
        d.ask(0, "COMMIT", "power");
        d.due("start", d.x.start(), true);
        d.due("all", d.all(), "states 0 0 0 0 0 0, counts 1 2 2 1 1 1 0 0 0");
        d.refused("start while up", () -> d.x.start(), false);
        d.due("open", d.x.open(0), true);
        d.ask(0, "SELECT k FROM t", "i (1) (2) SELECT 2 I");
    }

    /**
     * "Of a session: 0 not open (all, while the server is down), 1 idle, 2 in a transaction, 3 failed, + 4 if it
     * waits; -1 for no such session."
     */
    private static void promise10() {
        Desk d = withWait("promise 10");
        d.state(0, 2);
        d.state(1, 5);
        d.state(2, 1);
        d.state(3, 0);
        d.state(-1, -1);
        d.state(NO_SESSION, -1);
        d.ask(2, "BEGIN", "BEGIN T");
        d.ask(2, "DELETE FROM t WHERE k = 1", "waits");
        d.state(2, 6);
        d.ask(0, "SELECT x FROM t", "42703 F");
        d.state(0, 3);
        d.due("charge", d.x.charge(0), true);
        d.ask(1, "CHECKPOINT", "power");
        for (int s = 0; s < NO_SESSION; s++) {
            d.state(s, 0);
        }
        d.state(NO_SESSION, -1);
    }

    /**
     * "How many of the S transactions that have committed, ever, lie on a ring of BEFORE. (None does in a right
     * server.)"
     */
    private static void promise11() {
        Desk d = withTable("promise 11", 2);
        for (int s = 0; s < 2; s++) {
            d.ask(s, "BEGIN SERIALIZABLE", "BEGIN T");
            d.ask(s, "SELECT COUNT(*) FROM t", "i (2) SELECT 1 T");
        }
        d.ask(0, "INSERT INTO t VALUES (3)", "INSERT 1 T");
        d.ask(1, "INSERT INTO t VALUES (4)", "INSERT 1 T");
        d.due("rings", d.x.rings(), 0);
        d.ask(0, "COMMIT", "COMMIT I");
        // Each would be before the other: the second one must not commit.
        d.ask(1, "COMMIT", "40001 F");
        d.due("rings", d.x.rings(), 0);
        d.ask(1, "ROLLBACK", "ROLLBACK I");
        d.ask(1, "SELECT k FROM t", "i (1) (2) (3) SELECT 3 I");
    }

    /**
     * "0 whether it is up (1) or down (0), 1 how many versions there are, 2 how many were made in all, 3 numbers
     * given, 4 commits, 5 tables, 6 indexes, 7 bytes on the tape, 8 sessions that wait; -1 for another what. While
     * it is down 0 for all but 7 and those that are none."
     */
    private static void promise12() {
        Desk d = withWait("promise 12");
        d.ask(2, "CREATE TABLE u (k INT UNIQUE, v INT UNIQUE)", "CREATE I");
        d.due("feed", d.x.feed(0, 0, 0, 0, 0), true);
        d.due("all", d.all(), "states 2 5 1 0 0 0, counts 1 2 2 2 1 2 2 20 1");
        for (int what : new int[] {-1, 9, Integer.MIN_VALUE, Integer.MAX_VALUE}) {
            d.count(what, -1);
        }
        d.due("send", d.x.send(2, 1), 1);
        d.ask(0, "ROLLBACK", "ROLLBACK I");
        d.then(1, "UPDATE 1 I");
        d.due("all", d.all(), "states 1 1 1 0 0 0, counts 1 3 3 3 2 2 2 0 0");
        d.ask(0, "VACUUM t", "VACUUM 1 I");
        d.due("all", d.all(), "states 1 1 1 0 0 0, counts 1 2 3 3 2 2 2 0 0");
        d.due("charge", d.x.charge(1), true);
        d.ask(0, "DROP TABLE u", "power");
        d.due("feed", d.x.feed(0, 0, 0, 0, 0), true);
        d.due("all", d.all(), "states 0 0 0 0 0 0, counts 0 0 0 0 0 0 0 20 0");
        d.count(-1, -1);
        d.count(9, -1);
        d.due("start", d.x.start(), true);
        d.due("all", d.all(), "states 0 0 0 0 0 0, counts 1 2 3 3 2 1 0 20 0");
    }
}
