/** Promises 1 to 12, sentence by sentence: the bounds of what each call takes, and that a refused one changes nothing. */
public final class BoundsOfCallsTest {
    private static final int LEAST = Integer.MIN_VALUE;
    private static final int MOST = Integer.MAX_VALUE;
    // Numbers that are none of a session.
    private static final int[] NONE = {-1, 6, 7, LEAST, MOST};

    public static void main(String[] args) {
        newObject();
        feedTakesTwoThousand();
        feedWhileDown();
        feedOrder();
        openOfNone();
        openTwice();
        openWhileDown();
        closeOfOneThatIsNotOpen();
        closeTakesAll();
        closeWithThePower();
        sendOfNone();
        sendLengths();
        sendWhileWaiting();
        sendEmptiesTheTape();
        sendTellsTheEnd();
        fetchSevenAtMost();
        fetchOfNothing();
        cancelOfOneThatDoesNotWait();
        cancelWithThePower();
        chargeBounds();
        chargeAgain();
        startWhileUp();
        states();
        countsOfNone();
        countsWhileDown();
        fiveHundredAndTwelve();
        manyNames();
        Desk.end("BoundsOfCallsTest");
    }

    private static Desk desk(String name) {
        Desk d = Desk.with(name, 2);
        d.ask(0, "CREATE TABLE t (k INT UNIQUE, v INT)", "CREATE I");
        d.ask(0, "INSERT INTO t VALUES (1,10),(2,20)", "INSERT 2 I");
        return d;
    }

    /** Session 1 waits for session 0, which has a lock. */
    private static Desk waiting(String name) {
        Desk d = desk(name);
        d.ask(0, "BEGIN", "BEGIN T");
        d.ask(0, "LOCK t EXCLUSIVE", "LOCK T");
        d.ask(1, "DELETE FROM t", "waits");
        return d;
    }

    private static Desk down(String name) {
        Desk d = desk(name);
        d.x.charge(0);
        d.ask(0, "CHECKPOINT", "power");
        return d;
    }

    // "It is up; no tables; no session is open."
    private static void newObject() {
        Desk d = new Desk("a new object");
        d.due("all", d.all(), "states 0 0 0 0 0 0, counts 1 0 0 0 0 0 0 0 0");
    }

    // "20 bytes come behind the tape: true; false if 2000 are there."
    private static void feedTakesTwoThousand() {
        Desk d = desk("feed, full");
        for (int i = 0; i < 99; i++) {
            d.due("feed", d.x.feed(0x20202020, 0x20202020, 0x20202020, 0x20202020, 0x20202020), true);
        }
        d.count(7, 1980);
        d.due("the hundredth feed", d.x.feed(0x53454c45, 0x4354206b, 0x2046524f, 0x4d20743b, 0x20202020), true);
        d.count(7, 2000);
        d.refused("the feed behind it", () -> d.x.feed(-1, -1, -1, -1, -1), false);
        d.refused("and one more", () -> d.x.feed(0, 0, 0, 0, 0), false);
        d.due("send of all 2000", d.x.send(1, 2000), 1);
        d.then(1, "i (1) (2) SELECT 2 I");
        d.count(7, 0);
        d.due("feed", d.x.feed(0, 0, 0, 0, 0), true);
        d.count(7, 20);
    }

    // "also while the server is down: true; false if 2000 are there"
    private static void feedWhileDown() {
        Desk d = down("feed while down");
        for (int i = 0; i < 100; i++) {
            d.due("feed", d.x.feed(0x43484543, 0x4b504f49, 0x4e542020, 0x20202020, 0x20202020), true);
        }
        d.count(7, 2000);
        d.refused("the feed behind it", () -> d.x.feed(0, 0, 0, 0, 0), false);
        d.due("start", d.x.start(), true);
        d.count(7, 2000);
        d.refused("the feed behind start", () -> d.x.feed(0, 0, 0, 0, 0), false);
        d.due("open", d.x.open(3), true);
        d.due("send", d.x.send(3, 20), 1);
        d.then(3, "CHECKPOINT I");
    }

    // "the highest of a first"
    private static void feedOrder() {
        Desk d = Desk.with("the order of bytes", 1);
        // CREATE TABLE abcdefg (i_7 INT): each of the five is four bytes, the highest first.
        d.x.feed(0x43524541, 0x54452054, 0x41424c45, 0x20616263, 0x64656667);
        d.x.feed(0x2028695f, 0x3720494e, 0x54290000, 0x80ff7f00, 0xffffffff);
        d.due("send", d.x.send(0, 30), 1);
        d.then(0, "CREATE I");
        d.ask(0, "SELECT i_7 FROM abcdefg", "i SELECT 0 I");
        // Bytes of 128 and more are no token's.
        d.x.feed(0x43484543, 0x4b504f49, 0x4e5480ff, 0, 0);
        d.due("send", d.x.send(0, 11), 1);
        d.then(0, "42601 I");
    }

    // "false if there is no such one"
    private static void openOfNone() {
        Desk d = Desk.with("open of none", 6);
        d.x.close(5);
        for (int s : NONE) {
            d.refused("open " + s, () -> d.x.open(s), false);
        }
        d.due("open 5", d.x.open(5), true);
        d.state(5, 1);
    }

    // "it is open"
    private static void openTwice() {
        Desk d = desk("open twice");
        d.send(0, "SELECT v FROM t WHERE k = 1");
        d.refused("open of an open one", () -> d.x.open(0), false);
        // Its answer is still there, and what it prepared.
        d.then(0, "i (10) SELECT 1 I");
        d.ask(0, "PREPARE p AS SELECT k FROM t WHERE k = 1", "PREPARE I");
        d.ask(0, "BEGIN", "BEGIN T");
        d.refused("open of one in a transaction", () -> d.x.open(0), false);
        d.ask(0, "EXECUTE p", "i (1) SELECT 1 T");
        Desk w = waiting("open of one that waits");
        w.refused("open of one that waits", () -> w.x.open(1), false);
        w.ask(0, "COMMIT", "COMMIT I");
        w.then(1, "DELETE 2 I");
    }

    // "or the server is down"
    private static void openWhileDown() {
        Desk d = down("open while down");
        for (int s = 0; s < 6; s++) {
            int one = s;
            d.refused("open " + s, () -> d.x.open(one), false);
        }
        d.due("start", d.x.start(), true);
        for (int s = 0; s < 6; s++) {
            d.state(s, 0);
            d.due("open " + s, d.x.open(s), true);
        }
    }

    // "false if it is not open"
    private static void closeOfOneThatIsNotOpen() {
        Desk d = desk("close of one that is not open");
        for (int s : NONE) {
            d.refused("close " + s, () -> d.x.close(s), false);
        }
        d.refused("close of one never opened", () -> d.x.close(2), false);
        d.due("close", d.x.close(1), true);
        d.refused("close again", () -> d.x.close(1), false);
        Desk e = down("close while down");
        e.refused("close while down", () -> e.x.close(0), false);
    }

    // "its transaction is rolled back, a wait ended, what it prepared is gone, others go on"
    private static void closeTakesAll() {
        Desk d = waiting("close");
        d.ask(0, "PREPARE p AS SELECT k FROM t", "PREPARE T");
        d.ask(0, "INSERT INTO t VALUES (3, 30)", "INSERT 1 T");
        d.due("close", d.x.close(0), true);
        d.then(1, "DELETE 2 I");
        d.due("open", d.x.open(0), true);
        d.state(0, 1);
        d.then(0, "");
        d.ask(0, "EXECUTE p", "26000 I");
        d.ask(0, "COMMIT", "25P01 I");
        d.ask(0, "SELECT k FROM t", "i SELECT 0 I");
        Desk w = waiting("close of one that waits");
        w.count(8, 1);
        w.due("close", w.x.close(1), true);
        w.count(8, 0);
        w.state(1, 0);
        w.ask(0, "COMMIT", "COMMIT I");
        w.ask(0, "SELECT COUNT(*) FROM t", "i (2) SELECT 1 I");
        w.due("cancel of what waited", w.x.cancel(1), false);
    }

    // "true, also if the power goes in the call"
    private static void closeWithThePower() {
        Desk d = waiting("close, the power goes");
        d.x.charge(0);
        d.due("close", d.x.close(0), true);
        d.count(0, 0);
        d.state(1, 0);
        d.due("start", d.x.start(), true);
    }

    // "0, refused (the tape stays), if the session is not open"
    private static void sendOfNone() {
        Desk d = desk("send of none");
        d.x.feed(0x43484543, 0x4b504f49, 0x4e542020, 0x20202020, 0x20202020);
        for (int s : NONE) {
            d.refused("send " + s, () -> d.x.send(s, 10), 0);
        }
        d.refused("send of one that is not open", () -> d.x.send(2, 10), 0);
        d.due("send", d.x.send(0, 10), 1);
        d.then(0, "CHECKPOINT I");
        Desk e = down("send while down");
        e.x.feed(0x43484543, 0x4b504f49, 0x4e542020, 0x20202020, 0x20202020);
        e.refused("send while down", () -> e.x.send(0, 10), 0);
    }

    // "or n is not 1 .. the bytes that there are"
    private static void sendLengths() {
        Desk d = desk("send lengths");
        d.refused("send of an empty tape", () -> d.x.send(0, 0), 0);
        d.refused("send of 1 of an empty tape", () -> d.x.send(0, 1), 0);
        d.x.feed(0x43484543, 0x4b504f49, 0x4e542020, 0x20202020, 0x20202020);
        for (int n : new int[] {0, -1, LEAST, 21, 2000, MOST}) {
            d.refused("send of " + n, () -> d.x.send(1, n), 0);
        }
        d.due("the tape's first byte alone", d.x.send(1, 1), 1);
        d.count(7, 0);
        d.then(1, "42601 I");
        d.x.feed(0x43484543, 0x4b504f49, 0x4e542020, 0x20202020, 0x20202020);
        d.due("send of 20", d.x.send(1, 20), 1);
        d.then(1, "CHECKPOINT I");
    }

    // "if the session ... waits"
    private static void sendWhileWaiting() {
        Desk d = waiting("send while it waits");
        d.x.feed(0x43484543, 0x4b504f49, 0x4e542020, 0x20202020, 0x20202020);
        d.refused("send while it waits", () -> d.x.send(1, 10), 0);
        d.due("send of another", d.x.send(0, 10), 1);
        d.then(0, "25001 F");
        d.then(1, "DELETE 2 I");
    }

    // "The first n bytes of the tape are a message of a session, the tape is empty then"
    private static void sendEmptiesTheTape() {
        Desk d = desk("the tape is empty then");
        for (int i = 0; i < 3; i++) {
            d.x.feed(0x43484543, 0x4b504f49, 0x4e542020, 0x20202020, 0x20202020);
        }
        d.count(7, 60);
        d.due("send of 10 of 60", d.x.send(0, 10), 1);
        d.count(7, 0);
        d.then(0, "CHECKPOINT I");
        d.refused("send of what was left", () -> d.x.send(0, 1), 0);
        // Also behind an error, a wait, and the power.
        d.ask(0, "NONSENSE", "42601 I");
        d.count(7, 0);
        Desk w = waiting("the tape is empty when it waits");
        w.count(7, 0);
        w.x.charge(0);
        w.ask(0, "INSERT INTO t VALUES (9, 9)", "power");
        w.count(7, 0);
    }

    // "1 it is answered, 2 it waits (both as it is at the end of the call), 3 the power went"
    private static void sendTellsTheEnd() {
        Desk d = waiting("what send tells");
        // The power goes in what another session goes on with, behind the answer.
        d.x.charge(0);
        d.due("send", d.send(0, "COMMIT"), 3);
        d.due("fetch", d.x.fetch(0), 0);
        Desk e = desk("an error is an answer");
        e.due("send", e.send(0, "SELECT"), 1);
        Desk w = waiting("who waited is answered in another's call");
        w.due("send", w.send(0, "COMMIT"), 1);
        w.state(1, 1);
        w.then(1, "DELETE 2 I");
        w.then(0, "COMMIT I");
    }

    // "The next bytes of a session's answer, at most 7, which are taken: in the highest byte how many, then these"
    private static void fetchSevenAtMost() {
        Desk d = Desk.with("fetch", 1);
        // C 0 6 CREATE Z 0 1 I: 13 bytes, 7 and 6.
        d.send(0, "CREATE TABLE t (k INT)");
        d.due("fetch", Long.toHexString(d.x.fetch(0)), "743000643524541");
        d.due("fetch", Long.toHexString(d.x.fetch(0)), "654455a00014900");
        d.due("fetch", d.x.fetch(0), 0);
        // C 0 10 CHECKPOINT Z 0 1 I: 17 bytes, 7, 7 and 3.
        d.send(0, "CHECKPOINT");
        d.due("fetch", Long.toHexString(d.x.fetch(0)), "743000a43484543");
        d.due("fetch", Long.toHexString(d.x.fetch(0)), "74b504f494e545a");
        d.due("fetch", Long.toHexString(d.x.fetch(0)), "300014900000000");
        d.due("fetch", d.x.fetch(0), 0);
        // C 0 7 PREPARE Z 0 1 I: 14 bytes, 7 and 7, and no fetch of none between.
        d.send(0, "PREPARE p AS SELECT k FROM t");
        d.due("fetch", Long.toHexString(d.x.fetch(0)), "743000750524550");
        d.due("fetch", Long.toHexString(d.x.fetch(0)), "74152455a000149");
        d.due("fetch", d.x.fetch(0), 0);
        d.due("fetch again", d.x.fetch(0), 0);
    }

    // "0 if there are none, it waits, or is not open"
    private static void fetchOfNothing() {
        Desk d = waiting("fetch of nothing");
        for (int s : NONE) {
            d.refused("fetch " + s, () -> d.x.fetch(s), 0L);
        }
        d.refused("fetch of one that is not open", () -> d.x.fetch(4), 0L);
        d.refused("fetch of one that waits", () -> d.x.fetch(1), 0L);
        d.due("open", d.x.open(3), true);
        d.refused("fetch of one that sent nothing", () -> d.x.fetch(3), 0L);
        // A query that has locked a row and waits for the next: what it has found is not to be had yet.
        Desk e = desk("fetch of a query that waits");
        e.ask(0, "BEGIN", "BEGIN T");
        e.ask(0, "SELECT k FROM t WHERE k = 2 FOR UPDATE", "i (2) SELECT 1 T");
        e.ask(1, "SELECT k FROM t FOR UPDATE", "waits");
        e.refused("fetch", () -> e.x.fetch(1), 0L);
        e.ask(0, "COMMIT", "COMMIT I");
        e.then(1, "i (1) (2) SELECT 2 I");
    }

    // "false if it does not wait"
    private static void cancelOfOneThatDoesNotWait() {
        Desk d = waiting("cancel");
        for (int s : NONE) {
            d.refused("cancel " + s, () -> d.x.cancel(s), false);
        }
        d.refused("cancel of one that is not open", () -> d.x.cancel(5), false);
        d.refused("cancel of one that does not wait", () -> d.x.cancel(0), false);
        d.due("cancel", d.x.cancel(1), true);
        d.refused("cancel again", () -> d.x.cancel(1), false);
        d.then(1, "57014 I");
        Desk e = down("cancel while down");
        e.refused("cancel while down", () -> e.x.cancel(1), false);
    }

    // "others go on: true, also if the power goes in the call"
    private static void cancelWithThePower() {
        for (int n = 0; n <= 4; n++) {
            Desk d = Desk.with("cancel, the power at point " + n, 3);
            d.ask(0, "CREATE TABLE t (k INT)", "CREATE I");
            d.ask(0, "INSERT INTO t VALUES (1), (2)", "INSERT 2 I");
            d.ask(0, "BEGIN", "BEGIN T");
            d.ask(0, "LOCK t ACCESS SHARE", "LOCK T");
            d.ask(1, "DROP TABLE t", "waits");
            d.ask(2, "DELETE FROM t", "waits");
            d.x.charge(n);
            d.due("cancel", d.x.cancel(1), true);
            d.count(0, n < 4 ? 0 : 1);
            d.state(2, n < 4 ? 0 : 1);
        }
    }

    // "true; false if n is not 0 .. 999, or the server is down"
    private static void chargeBounds() {
        Desk d = desk("charge");
        for (int n : new int[] {-1, 1000, LEAST, MOST}) {
            d.refused("charge " + n, () -> d.x.charge(n), false);
        }
        d.due("charge 999", d.x.charge(999), true);
        d.due("charge 0", d.x.charge(0), true);
        // A charge that is refused does not take the earlier one away.
        d.refused("charge 1000", () -> d.x.charge(1000), false);
        d.ask(0, "CHECKPOINT", "power");
        d.refused("charge while down", () -> d.x.charge(5), false);
        d.due("start", d.x.start(), true);
        d.due("open", d.x.open(0), true);
        // That charge is used up, and the refused one counts for nothing.
        for (int i = 0; i < 5; i++) {
            d.ask(0, "CHECKPOINT", "CHECKPOINT I");
        }
        chargeMost();
    }

    // "The power goes at the (n + 1)-th point from now on": with 999 at the thousandth.
    private static void chargeMost() {
        Desk d = desk("charge 999");
        d.ask(0, "CREATE TABLE n (k INT)", "CREATE I");
        d.due("charge 999", d.x.charge(999), true);
        d.ask(0, "INSERT INTO n VALUES (0),(1),(2),(3),(4),(5),(6),(7),(8),(9)", "INSERT 10 I");
        d.ask(0, "INSERT INTO n SELECT a.k FROM n a, n b", "INSERT 100 I");
        int points = 12 + 102;
        for (int i = 0; i < 3; i++) {
            d.ask(0, "UPDATE n SET k = k + 1", "UPDATE 110 I");
            points += 222;
        }
        d.ask(0, "INSERT INTO n SELECT k FROM n", "INSERT 110 I");
        points += 112;
        for (; points < 998; points += 2) {
            d.due("send", d.send(0, "CHECKPOINT"), 1);
        }
        d.ask(0, "BEGIN", "BEGIN T");
        d.ask(0, "INSERT INTO t VALUES (999, 0)", "INSERT 1 T");
        d.ask(0, "COMMIT", "power");
        d.due("start", d.x.start(), true);
        d.due("open", d.x.open(0), true);
        d.ask(0, "SELECT k FROM t", "i (1) (2) SELECT 2 I");
    }

    // "(an earlier charge counts no more)"
    private static void chargeAgain() {
        Desk d = desk("charge again");
        d.due("charge", d.x.charge(0), true);
        d.due("charge", d.x.charge(2), true);
        d.ask(0, "CHECKPOINT", "CHECKPOINT I");
        d.due("charge", d.x.charge(2), true);
        d.ask(0, "CHECKPOINT", "CHECKPOINT I");
        d.ask(0, "CHECKPOINT", "power");
        d.due("start", d.x.start(), true);
        d.due("open", d.x.open(0), true);
        d.ask(0, "CHECKPOINT", "CHECKPOINT I");
        d.ask(0, "INSERT INTO t VALUES (3, 30)", "INSERT 1 I");
    }

    // "The server, which is down, is up again: true; false if it is up."
    private static void startWhileUp() {
        Desk d = waiting("start while up");
        d.x.feed(1, 2, 3, 4, 5);
        d.refused("start", () -> d.x.start(), false);
        d.due("close", d.x.close(0), true);
        d.then(1, "DELETE 2 I");
        Desk e = down("start");
        e.due("start", e.x.start(), true);
        e.refused("start again", () -> e.x.start(), false);
        e.count(0, 1);
    }

    // "0 not open (all, while the server is down), 1 idle, 2 in a transaction, 3 failed, + 4 if it waits; -1 for no such"
    private static void states() {
        Desk d = waiting("states");
        for (int s : NONE) {
            d.state(s, -1);
        }
        d.state(0, 2);
        d.state(1, 5);
        d.state(2, 0);
        d.x.open(2);
        d.state(2, 1);
        d.ask(2, "BEGIN", "BEGIN T");
        d.ask(2, "DELETE FROM t", "waits");
        d.state(2, 6);
        d.x.open(3);
        d.ask(3, "BEGIN", "BEGIN T");
        d.ask(3, "NONSENSE", "42601 F");
        d.state(3, 3);
        Desk e = down("states while down");
        for (int s = 0; s < 6; s++) {
            e.state(s, 0);
        }
        for (int s : NONE) {
            e.state(s, -1);
        }
    }

    // "-1 for another what"
    private static void countsOfNone() {
        Desk d = waiting("counts");
        for (int what : new int[] {-1, 9, 10, LEAST, MOST}) {
            d.count(what, -1);
        }
        d.due("all", d.all(), "states 2 5 0 0 0 0, counts 1 2 2 1 1 1 1 0 1");
        d.due("rings", d.x.rings(), 0);
    }

    // "While it is down 0 for all but 7 and those that are none."
    private static void countsWhileDown() {
        Desk d = down("counts while down");
        d.due("all", d.all(), "states 0 0 0 0 0 0, counts 0 0 0 0 0 0 0 0 0");
        d.x.feed(1, 2, 3, 4, 5);
        d.due("all", d.all(), "states 0 0 0 0 0 0, counts 0 0 0 0 0 0 0 20 0");
        for (int what : new int[] {-1, 9, LEAST, MOST}) {
            d.count(what, -1);
        }
        d.due("rings", d.x.rings(), 0);
    }

    // "An object is used for at most 512 calls after it has been made; what later calls answer is free."
    private static void fiveHundredAndTwelve() {
        Desk d = new Desk("512 calls");
        SessionServer y = new SessionServer();
        int calls = 0;
        for (; calls < 509; calls++) {
            int s = calls / 2 % 6;
            d.due("call " + calls, calls % 2 == 0 ? y.open(s) : y.close(s), true);
        }
        d.due("call 510", y.feed(0x43484543, 0x4b504f49, 0x4e542020, 0x20202020, 0x20202020), true);
        d.due("call 511", y.send(2, 10), 1);
        d.due("call 512", Long.toHexString(y.fetch(2)), "743000a43484543");
        // Later ones end, and throw nothing.
        for (int i = 0; i < 2000; i++) {
            y.feed(i, -i, i << 16, 0x43484543, 0x20202020);
            y.send(i % 7, i % 23);
            y.fetch(i % 7);
            y.charge(i % 1001);
            y.open(i % 7);
            y.cancel(i % 7);
            y.close(i % 5);
            y.start();
            y.count(i % 10);
        }
    }

    // All that 512 calls can bring in names is taken.
    private static void manyNames() {
        Desk d = Desk.with("many names", 1);
        int n = 0;
        for (int m = 0; m < 4; m++) {
            StringBuilder b = new StringBuilder();
            while (b.length() < 1990) {
                b.append((char) ('a' + n % 26)).append((char) ('a' + n / 26 % 26)).append(n / 676 % 10).append(' ');
                n++;
            }
            d.ask(0, b.toString(), "42601 I");
        }
        d.ask(0, "CREATE TABLE zzzzzzzzzzzzzzzz (yyyyyyyyyyyyyyyy INT)", "CREATE I");
        d.ask(0, "SELECT zzzzzzzzzzzzzzzz.yyyyyyyyyyyyyyyy FROM zzzzzzzzzzzzzzzz", "i SELECT 0 I");
    }
}
