import java.nio.charset.StandardCharsets;

/** A server with six sessions as a test uses it: statements as texts, answers as texts, and a tally of faults. */
final class Desk {
    private static int wrong = 0;
    private static int looked = 0;
    private final String name;
    private int calls = 0;
    // What an object answers behind its 512th call is free.
    int limit = 512;
    final SessionServer x = new SessionServer();

    Desk(String name) {
        this.name = name;
    }

    /** A new server with sessions 0 .. n - 1 open. */
    static Desk with(String name, int n) {
        Desk d = new Desk(name);
        for (int s = 0; s < n; s++) {
            d.due("open " + s, d.x.open(s), true);
        }
        return d;
    }

    void due(String what, Object got, Object want) {
        looked++;
        if (calls > limit) {
            wrong++;
            System.out.println(name + ": the document says nothing of an object after 512 calls");
            calls = 0;
        }
        if (!String.valueOf(got).equals(String.valueOf(want))) {
            wrong++;
            System.out.println(name + ": " + what + " answered " + got + ", due is " + want);
        }
    }

    /** Feeds a text and sends it; what send() answers. */
    int send(int s, String text) {
        byte[] b = text.getBytes(StandardCharsets.ISO_8859_1);
        int[] v = new int[5];
        for (int i = 0; i < b.length; i += 20) {
            for (int k = 0; k < 5; k++) {
                v[k] = 0;
                for (int j = 0; j < 4; j++) {
                    int p = i + 4 * k + j;
                    v[k] = v[k] << 8 | (p < b.length ? b[p] & 255 : 0);
                }
            }
            x.feed(v[0], v[1], v[2], v[3], v[4]);
            calls++;
        }
        calls++;
        return x.send(s, b.length);
    }

    /** All bytes that are left of an answer. */
    byte[] bytes(int s) {
        java.io.ByteArrayOutputStream all = new java.io.ByteArrayOutputStream();
        calls++;
        for (long f = x.fetch(s); f != 0; f = x.fetch(s)) {
            calls++;
            int n = (int) (f >>> 56);
            for (int i = 0; i < n; i++) {
                all.write((int) (f >>> (48 - 8 * i)) & 255);
            }
        }
        return all.toByteArray();
    }

    /** An answer: types, rows, tag or code, state; "ii (1,2) (3,~) SELECT 2 I". */
    String answer(int s) {
        byte[] b = bytes(s);
        StringBuilder t = new StringBuilder();
        int i = 0;
        while (i < b.length) {
            int kind = b[i];
            int size = (b[i + 1] & 255) << 8 | b[i + 2] & 255;
            int at = i + 3;
            i = at + size;
            if (kind == 'T') {
                t.append(new String(b, at + 1, size - 1, StandardCharsets.ISO_8859_1));
                if (b[at] != size - 1) {
                    t.append("?");
                }
            } else if (kind == 'D') {
                t.append(" (");
                String comma = "";
                while (at < i) {
                    int n = b[at++] & 255;
                    t.append(comma);
                    comma = ",";
                    if (n == 255) {
                        t.append("~");
                    } else {
                        t.append(new String(b, at, n, StandardCharsets.ISO_8859_1));
                        at += n;
                    }
                }
                t.append(")");
            } else {
                if (t.length() > 0) {
                    t.append(" ");
                }
                t.append(new String(b, at, size, StandardCharsets.ISO_8859_1));
            }
        }
        return t.toString();
    }

    /** Sends a statement and looks at its answer: "waits" and "power" stand for what send() says otherwise. */
    void ask(int s, String text, String want) {
        int r = send(s, text);
        due("session " + s + ": " + text, r == 2 ? "waits" : r == 3 ? "power" : r == 0 ? "refused" : answer(s), want);
    }

    /** The answer of a session that had waited. */
    void then(int s, String want) {
        due("session " + s + " then", x.state(s) >= 4 ? "waits" : answer(s), want);
    }

    void state(int s, int want) {
        calls++;
        due("state " + s, x.state(s), want);
    }

    void count(int what, int want) {
        calls++;
        due("count " + what, x.count(what), want);
    }

    /** All that calls tell of the server without changing it. */
    String all() {
        StringBuilder b = new StringBuilder("states");
        for (int s = 0; s < 6; s++) {
            b.append(' ').append(x.state(s));
        }
        b.append(", counts");
        for (int what = 0; what <= 8; what++) {
            b.append(' ').append(x.count(what));
        }
        return b.toString();
    }

    int calls() {
        return calls;
    }

    /** A call that is refused, and changes nothing of what can be told. */
    void refused(String what, java.util.function.Supplier<Object> call, Object want) {
        String before = all();
        due(what, call.get(), want);
        due("all that can be told behind " + what, all(), before);
    }

    static String repeat(String text, int n) {
        StringBuilder b = new StringBuilder();
        for (int i = 0; i < n; i++) {
            b.append(text);
        }
        return b.toString();
    }

    /** The end of a test's main method. */
    static void end(String test) {
        System.out.println(test + ": " + looked + " answers, " + wrong + " of them wrong");
        if (wrong > 0 || looked == 0) {
            System.exit(1);
        }
    }
}
