/** Promises 1 to 12 call by call: ordinary inputs, edges and wrong inputs. */
public final class CallsTest {
    public static void main(String[] args) {
        newObject();
        feed();
        sessions();
        Desk.end("CallsTest");
    }

    private static void newObject() {
        Desk d = new Desk("new object");
        d.count(0, 1);
        for (int what = 1; what <= 8; what++) {
            d.count(what, 0);
        }
        d.count(-1, -1);
        d.count(9, -1);
        for (int s = 0; s < 6; s++) {
            d.state(s, 0);
        }
        d.state(-1, -1);
        d.state(6, -1);
        d.due("rings", d.x.rings(), 0);
        d.due("start", d.x.start(), false);
    }

    private static void feed() {
        Desk d = new Desk("feed");
        for (int i = 1; i <= 100; i++) {
            d.due("feed " + i, d.x.feed(0, 0, 0, 0, 0), true);
            d.count(7, 20 * i);
        }
        d.due("feed 101", d.x.feed(0, 0, 0, 0, 0), false);
        d.count(7, 2000);
        d.due("send", d.x.send(0, 20), 0);
        d.count(7, 2000);
        d.x.open(0);
        d.due("send 0", d.x.send(0, 0), 0);
        d.due("send 2001", d.x.send(0, 2001), 0);
        d.due("send of no session", d.x.send(6, 20), 0);
        d.due("send 2000", d.x.send(0, 2000), 1);
        d.count(7, 0);
        d.then(0, "42601 I");
    }

    private static void sessions() {
        Desk d = new Desk("sessions");
        d.due("open -1", d.x.open(-1), false);
        d.due("open 6", d.x.open(6), false);
        d.due("open 5", d.x.open(5), true);
        d.due("open 5 again", d.x.open(5), false);
        d.state(5, 1);
        d.ask(5, "BEGIN", "BEGIN T");
        d.state(5, 2);
        d.ask(5, "FOO", "42601 F");
        d.state(5, 3);
        d.due("close 5", d.x.close(5), true);
        d.due("close 5 again", d.x.close(5), false);
        d.due("close 6", d.x.close(6), false);
        d.due("cancel", d.x.cancel(0), false);
        d.due("cancel", d.x.cancel(-1), false);
        d.due("fetch of none", d.x.fetch(-1), 0);
        d.due("fetch of one that is not open", d.x.fetch(5), 0);
    }
}
