/** Promises 5 and 6, sentence by sentence: the bounds of answers, values and tokens (TEXT AND ANSWERS, VALUES, TOKENS). */
public final class BoundsOfTextTest {
    private static final String LONG = "1234567890123456789012345678901";

    public static void main(String[] args) {
        messageOfOneByte();
        messageOfTwoThousand();
        typesWithoutRows();
        typesOfNothing();
        cellSizes();
        frameSizes();
        answerOfSixteenK();
        longAnswerFails();
        answerIsGone();
        wraps();
        division();
        emptyTexts();
        textsAreCut();
        comparing();
        threeValues();
        betweenAndIn();
        names();
        numbers();
        texts();
        parameters();
        signs();
        blanks();
        words();
        Desk.end("BoundsOfTextTest");
    }

    private static Desk desk(String name) {
        Desk d = Desk.with(name, 1);
        d.ask(0, "CREATE TABLE o (n INT, m TEXT, c BOOL)", "CREATE I");
        d.ask(0, "INSERT INTO o VALUES (NULL, NULL, NULL)", "INSERT 1 I");
        return d;
    }

    private static void one(Desk d, String items, String want) {
        d.ask(0, "SELECT " + items + " FROM o", want.matches("[0-9A-Z]{5}") ? want + " I" : want + " SELECT 1 I");
    }

    private static String hex(byte[] b) {
        StringBuilder t = new StringBuilder();
        for (byte v : b) {
            t.append(String.format("%02x", v & 255));
        }
        return t.toString();
    }

    // "A MESSAGE is one STATEMENT of 1 .. 2000 bytes."
    private static void messageOfOneByte() {
        Desk d = desk("a message of one byte");
        for (String text : new String[] {" ", ";", "C", "a", "1", "'", "$", "|", "\u0000", "\u00ff"}) {
            d.ask(0, text, "42601 I");
        }
    }

    private static void messageOfTwoThousand() {
        Desk d = desk("a message of 2000 bytes");
        String text = "SELECT n" + Desk.repeat(" ", 1985) + "FROM o;";
        d.due("its length", text.length(), 2000);
        d.ask(0, text, "i (~) SELECT 1 I");
        d.ask(0, "VACUUM o" + Desk.repeat(" ", 1992), "VACUUM 0 I");
        d.ask(0, Desk.repeat(" ", 1992) + "VACUUM o", "VACUUM 0 I");
        d.ask(0, "PREPARE p AS " + Desk.repeat(" ", 1987 - 15) + "SELECT n FROM o", "PREPARE I");
        d.ask(0, "EXECUTE p", "i (~) SELECT 1 I");
    }

    // "first, for a query (also one without rows), T: how many columns (one byte), and for each its type"
    private static void typesWithoutRows() {
        Desk d = desk("T without rows");
        d.send(0, "SELECT n, m, c FROM o WHERE FALSE");
        d.due("the answer", hex(d.bytes(0)), "540004" + "03697462" + "430008" + "53454c4543542030" + "5a0001" + "49");
        d.send(0, "SELECT n FROM o LIMIT 0");
        d.due("the answer", hex(d.bytes(0)), "540002" + "0169" + "430008" + "53454c4543542030" + "5a0001" + "49");
        d.send(0, "SELECT n,n,n,n,n,n,n,n FROM o WHERE FALSE");
        d.due("the answer", hex(d.bytes(0)).substring(0, 24), "540009" + "08" + "6969696969696969");
        // Others have none.
        d.send(0, "DELETE FROM o WHERE FALSE");
        d.due("the answer", hex(d.bytes(0)), "430008" + "44454c4554452030" + "5a0001" + "49");
    }

    // "t for what is of no type, as NULL alone"
    private static void typesOfNothing() {
        Desk d = desk("t for what is of no type");
        one(d, "NULL, (NULL), NULL + 1, NULL || '', NOT NULL, NULL = NULL, NULL IS NULL, -NULL", 
            "ttitbbbi (~,~,~,~,~,~,t,~)");
        one(d, "MIN(NULL), MAX(NULL), SUM(NULL), COUNT(NULL), MIN(MAX(NULL))", "42803");
        one(d, "MIN(NULL), MAX(NULL), SUM(NULL), COUNT(NULL)", "ttii (~,~,~,0)");
    }

    // "for each cell its size, and its characters (a NULL: size 255 and none; ...)"
    private static void cellSizes() {
        Desk d = desk("cells");
        d.send(0, "SELECT '', NULL, 'a', 0, -1, TRUE, FALSE, '" + LONG + "' FROM o");
        d.due("D", hex(d.bytes(0)).substring(24, 24 + 2 * 48), "44002d" + "00" + "ff" + "0161" + "0130" + "022d31"
            + "0174" + "0166" + "1f31323334353637383930313233343536373839303132333435363738393031");
        d.send(0, "SELECT 2147483648 * 2147483648 * 2, 2147483648 * 2147483648 * 2 - 1 FROM o");
        d.due("D", hex(d.bytes(0)).substring(12, 12 + 2 * 46), "440029"
            + "142d39323233333732303336383534373735383038" + "1339323233333732303336383534373735383037"
            + "4300");
        // One digit more each time.
        long v = 9;
        for (int digits = 1; digits <= 18; digits++) {
            one(d, v + ", " + (v + 1) / 10 + ", -" + v + ", -" + (v + 1) / 10,
                "iiii (" + v + "," + (v + 1) / 10 + ",-" + v + ",-" + (v + 1) / 10 + ")");
            v = v * 10 + 9;
        }
    }

    // "the size of what follows (two bytes, the higher first)"
    private static void frameSizes() {
        Desk d = desk("frames of 255 and 256 bytes");
        String seven = Desk.repeat("'" + LONG + "', ", 7);
        d.send(0, "SELECT " + seven + "'123456789012345678901234567890' FROM o");
        d.due("D", hex(d.bytes(0)).substring(24, 30), "4400ff");
        d.send(0, "SELECT " + seven + "'" + LONG + "' FROM o");
        d.due("D", hex(d.bytes(0)).substring(24, 30), "440100");
    }

    /** A table of 64 rows, whose answers are 16 more or less, as text says: 12 bytes of T, 64 rows, 12 of C, 4 of Z. */
    private static Desk long64(String name, int size) {
        Desk d = Desk.with(name, 2);
        d.ask(0, "CREATE TABLE w (k INT, s TEXT)", "CREATE I");
        d.ask(0, "INSERT INTO w VALUES (0,''),(1,''),(2,''),(3,''),(4,''),(5,''),(6,''),(7,'')", "INSERT 8 I");
        // 28 bytes of other frames, and 64 rows of 3 + 7 * 32 + 1 + 27 = 255, some of them one longer.
        d.ask(0, "CREATE TABLE z (n INT, s TEXT)", "CREATE I");
        d.ask(0, "INSERT INTO z SELECT a.k * 8 + b.k, '123456789012345678901234567' FROM w a, w b", "INSERT 64 I");
        int longer = size - 28 - 64 * 255;
        d.ask(0, "UPDATE z SET s = s || 'x' WHERE n < " + longer, "UPDATE " + longer + " I");
        return d;
    }

    private static String query64() {
        return "SELECT " + Desk.repeat("'" + LONG + "',", 7) + "s FROM z";
    }

    // "A query whose answer, all frames together, has more than 16384 bytes fails with 54000"
    private static void answerOfSixteenK() {
        Desk d = long64("an answer of 16384 bytes", 16384);
        d.limit = 4000;
        d.send(0, query64());
        byte[] b = d.bytes(0);
        d.due("its bytes", b.length, 16384);
        d.due("its end", hex(b).substring(2 * (16384 - 16)), "43000953454c4543542036345a000149");
        d = long64("an answer of 16385 bytes", 16385);
        d.ask(0, query64(), "54000 I");
        d = long64("an answer of 16383 bytes", 16383);
        d.limit = 4000;
        d.send(0, query64());
        d.due("its bytes", d.bytes(0).length, 16383);
        // One row fewer or more is far from it.
        d = long64("one row more", 16384);
        d.ask(0, "INSERT INTO z VALUES (64, '')", "INSERT 1 I");
        d.ask(0, query64(), "54000 I");
    }

    // "at its end, an error like others"
    private static void longAnswerFails() {
        Desk d = long64("too long an answer in a transaction", 16385);
        d.ask(0, "BEGIN", "BEGIN T");
        d.ask(0, "INSERT INTO w VALUES (9, 'x')", "INSERT 1 T");
        d.ask(0, "SAVEPOINT a", "SAVEPOINT T");
        d.ask(0, query64() + " FOR UPDATE", "54000 F");
        // Its locks are gone, its number is given, and level 0 is still there.
        d.count(3, 5);
        d.ask(1, "UPDATE z SET n = n WHERE n = 1", "UPDATE 1 I");
        d.ask(0, "SELECT k FROM w", "25P02 F");
        d.ask(0, "ROLLBACK TO a", "ROLLBACK T");
        d.ask(0, "SELECT s FROM w WHERE k = 9", "t (x) SELECT 1 T");
        d.ask(0, "COMMIT", "COMMIT I");
        // A query in INSERT has no such answer, and LIMIT makes it short enough.
        d.ask(0, "CREATE TABLE y (a TEXT, b TEXT)", "CREATE I");
        d.ask(0, "INSERT INTO y SELECT a.s, b.s FROM z a, w b", "INSERT 576 I");
        d.ask(0, query64() + " LIMIT 1", "tttttttt (" + Desk.repeat(LONG + ",", 7) + "123456789012345678901234567x"
            + ") SELECT 1 I");
    }

    // "What was not taken of an answer is gone when the next message is sent, the session closes or the power goes."
    private static void answerIsGone() {
        Desk d = desk("the next message");
        d.send(0, "SELECT n FROM o");
        d.x.fetch(0);
        d.ask(0, "BEGIN", "BEGIN T");
        d.send(0, "SELECT n FROM o");
        d.due("send of another's", d.x.send(1, 1), 0);
        d.due("send of nothing", d.x.send(0, 1), 0);
        d.then(0, "i (~) SELECT 1 T");
        d = desk("the session closes");
        d.send(0, "SELECT n FROM o");
        d.x.close(0);
        d.due("fetch", d.x.fetch(0), 0);
        d.x.open(0);
        d.due("fetch", d.x.fetch(0), 0);
        d = desk("the power goes");
        d.x.open(1);
        d.send(0, "SELECT n FROM o");
        d.x.charge(0);
        d.ask(1, "CHECKPOINT", "power");
        d.due("fetch", d.x.fetch(0), 0);
        d.x.start();
        d.x.open(0);
        d.due("fetch", d.x.fetch(0), 0);
        // A message that waits: what was left is gone as well.
        d = desk("a message that waits");
        d.x.open(1);
        d.ask(1, "BEGIN", "BEGIN T");
        d.ask(1, "LOCK o EXCLUSIVE", "LOCK T");
        d.send(0, "SELECT n FROM o");
        d.ask(0, "DELETE FROM o", "waits");
        d.ask(1, "COMMIT", "COMMIT I");
        d.then(0, "DELETE 1 I");
    }

    // "INT: 64 bits, sums, differences, products, quotients and negations wrap."
    private static void wraps() {
        Desk d = desk("wraps");
        String least = "2147483648 * 2147483648 * 2";
        String most = "(" + least + " - 1)";
        one(d, most + ", " + least, "ii (9223372036854775807,-9223372036854775808)");
        one(d, most + " + 1, " + least + " - 1", "ii (-9223372036854775808,9223372036854775807)");
        one(d, most + " * 2, " + least + " * -1, (" + least + ") * 2", "iii (-2,-9223372036854775808,0)");
        one(d, "(" + least + ") / -1, (" + least + ") % -1, -(" + least + ")",
            "iii (-9223372036854775808,0,-9223372036854775808)");
        one(d, most + " > " + least + ", " + most + " = " + most + ", " + least + " < 0", "bbb (t,t,t)");
        d.ask(0, "CREATE TABLE w (k INT)", "CREATE I");
        d.ask(0, "INSERT INTO w VALUES (" + most + "), (1)", "INSERT 2 I");
        d.ask(0, "SELECT SUM(k), MIN(k), MAX(k) FROM w", "iii (-9223372036854775808,1,9223372036854775807) SELECT 1 I");
        d.ask(0, "UPDATE w SET k = k + 1 WHERE k > 1", "UPDATE 1 I");
        d.ask(0, "SELECT k FROM w", "i (-9223372036854775808) (1) SELECT 2 I");
    }

    // "x / 0 and x % 0 are NULL; / goes towards 0, % has the sign of x"
    private static void division() {
        Desk d = desk("division");
        one(d, "1 / 0, 0 / 0, 1 % 0, 0 % 0, n / 0, 0 / n, 0 % n", "iiiiiii (~,~,~,~,~,~,~)");
        one(d, "5 / 2, -5 / 2, 5 / -2, -5 / -2, 1 / 2, -1 / 2", "iiiiii (2,-2,-2,2,0,0)");
        one(d, "5 % 2, -5 % 2, 5 % -2, -5 % -2, 4 % 2, 0 % 7", "iiiiii (1,-1,1,-1,0,0)");
        one(d, "n + 1, 1 + n, n - 1, n * 0, 0 * n, -n", "iiiiii (~,~,~,~,~,~)");
    }

    // "TEXT: 0 .. 31 bytes 32 .. 126."
    private static void emptyTexts() {
        Desk d = desk("empty texts");
        one(d, "'', '' || '', '' = '', '' < ' ', '' IS NULL, '' || m", "ttbbbt (,,t,t,f,~)");
        one(d, "MIN(''), MAX(''), COUNT('')", "tti (,,1)");
        one(d, "' ', '~', ' ' < '~'", "ttb ( ,~,t)");
        d.ask(0, "SELECT '\u001f' FROM o", "42601 I");
        d.ask(0, "SELECT '\u007f' FROM o", "42601 I");
        d.ask(0, "SELECT '\u0080' FROM o", "42601 I");
        d.ask(0, "INSERT INTO o VALUES (1, '', TRUE), (1, NULL, TRUE), (1, ' ', TRUE)", "INSERT 3 I");
        d.ask(0, "SELECT m FROM o WHERE n = 1", "t () ( ) (~) SELECT 3 I");
    }

    // "A TEXT that would be longer is cut to 31."
    private static void textsAreCut() {
        for (int left = 0; left <= 31; left += left < 28 && left != 4 ? 4 : 1) {
            Desk d = desk("cut to 31, behind " + left);
            String a = LONG.substring(0, left);
            for (int right : new int[] {0, 1, 31 - left, 32 - left, 31}) {
                if (right > 31 || right < 0) {
                    continue;
                }
                String b = Desk.repeat("x", right);
                String both = (a + b).substring(0, Math.min(31, left + right));
                one(d, "'" + a + "' || '" + b + "'", "t (" + both + ")");
            }
        }
        Desk d = desk("cut to 31, kept and compared");
        d.ask(0, "UPDATE o SET m = '" + LONG + "' || 'x'", "UPDATE 1 I");
        d.ask(0, "UPDATE o SET m = m || m", "UPDATE 1 I");
        one(d, "m, m = '" + LONG + "', m || '' || 'y' = m, '1' || m", "tbbt (" + LONG + ",t,t,1" + LONG.substring(0, 30) + ")");
    }

    // "two TEXTs (by bytes, a beginning before what goes on) or two BOOLs (f before t): a BOOL, NULL if one is NULL"
    private static void comparing() {
        Desk d = desk("comparing");
        one(d, "'' < 'a', 'a' < 'aa', 'aa' < 'ab', 'Z' < 'a', ' ' < '!', '}' < '~', 'a' < 'a'", "bbbbbbb (t,t,t,t,t,t,f)");
        // At each eighth byte, and at the last.
        for (int n : new int[] {7, 8, 9, 15, 16, 17, 23, 24, 25, 30, 31}) {
            String a = Desk.repeat("m", n);
            String less = Desk.repeat("m", n - 1) + "l";
            one(d, "'" + less + "' < '" + a + "', '" + Desk.repeat("m", n - 1) + "' < '" + a + "', '" + a + "' = '" + a
                + "', '" + a + "' <= '" + less + "'", "bbbb (t,t,t,f)");
        }
        one(d, "FALSE < TRUE, TRUE < FALSE, FALSE <= FALSE, TRUE > TRUE, TRUE <> FALSE", "bbbbb (t,f,t,f,t)");
        one(d, "n = n, n <> n, m < '', '' >= m, c = c, c <> TRUE, NULL = NULL", "bbbbbbb (~,~,~,~,~,~,~)");
    }

    // "NULL AND f is f, NULL OR t is t, otherwise NULL with one NULL that decides"
    private static void threeValues() {
        Desk d = desk("three values");
        String[] v = {"TRUE", "FALSE", "c"};
        String[] and = {"t", "f", "~", "f", "f", "f", "~", "f", "~"};
        String[] or = {"t", "t", "t", "t", "f", "~", "t", "~", "~"};
        for (int i = 0; i < 9; i++) {
            one(d, v[i / 3] + " AND " + v[i % 3] + ", " + v[i / 3] + " OR " + v[i % 3], "bb (" + and[i] + "," + or[i] + ")");
        }
        one(d, "NOT TRUE, NOT FALSE, NOT c, c IS NULL, c IS NOT NULL, NOT c IS NULL", "bbbbbb (f,t,~,t,f,f)");
    }

    // "x BETWEEN a AND b: x >= a AND x <= b. x IN (a, b, ..): x = a OR x = b OR ...; with NOT ...: NOT of that."
    private static void betweenAndIn() {
        Desk d = desk("BETWEEN and IN");
        one(d, "1 BETWEEN 1 AND 1, 1 BETWEEN 2 AND 3, 4 BETWEEN 2 AND 3, 2 BETWEEN 2 AND 3, 3 BETWEEN 2 AND 3, "
            + "2 BETWEEN 3 AND 1, 2 NOT BETWEEN 3 AND 1", "bbbbbbb (t,f,f,t,t,f,t)");
        one(d, "1 BETWEEN n AND 0, 1 BETWEEN n AND 1, 1 BETWEEN 2 AND n, 1 NOT BETWEEN n AND 0, 1 NOT BETWEEN n AND 1",
            "bbbbb (f,~,f,t,~)");
        one(d, "1 IN (1), 1 IN (2), 1 IN (2, 1), 1 IN (n, 1), 1 IN (n, 2), n IN (1), 1 NOT IN (2, n), 1 NOT IN (1, n)",
            "bbbbbbbb (t,f,t,t,~,~,~,f)");
    }

    // "NAMES (a small letter, then small letters, digits and _, 16 at most)"
    private static void names() {
        Desk d = desk("names");
        d.ask(0, "SELECT a.n FROM o a", "i (~) SELECT 1 I");
        d.ask(0, "SELECT z9_zzzzzzzzzzzz9.n FROM o z9_zzzzzzzzzzzz9", "i (~) SELECT 1 I");
        d.ask(0, "SELECT n FROM o z9_zzzzzzzzzzzz99", "42601 I");
        d.ask(0, "SELECT n FROM o " + Desk.repeat("a", 16), "i (~) SELECT 1 I");
        d.ask(0, "SELECT n FROM o " + Desk.repeat("a", 17), "42601 I");
        d.ask(0, "SELECT n FROM o " + Desk.repeat("a", 32), "42601 I");
        // What differs in the last place alone are two names.
        d.ask(0, "SELECT aaaaaaaaaaaaaaab.n FROM o aaaaaaaaaaaaaaaa", "42P01 I");
        d.ask(0, "SELECT aaaaaaaaaaaaaaa.n FROM o aaaaaaaaaaaaaaaa", "42P01 I");
        for (String name : new String[] {"_a", "9a", "A", "aB", "a-b", "a$1", "a'b'", "a.b"}) {
            d.ask(0, "SELECT n FROM o " + name, "42601 I");
        }
        d.ask(0, "CREATE TABLE a_ (a0 INT, a_0 TEXT, a__ BOOL)", "CREATE I");
        d.ask(0, "SELECT a__, a_0, a0 FROM a_", "bti SELECT 0 I");
    }

    // "NUMBERS (1 .. 18 digits)"
    private static void numbers() {
        Desk d = desk("numbers");
        one(d, "0, 00, 000000000000000000, 000000000000000007, 999999999999999999", "iiiii (0,0,0,7,999999999999999999)");
        d.ask(0, "SELECT 9999999999999999999 FROM o", "42601 I");
        d.ask(0, "SELECT 0000000000000000001 FROM o", "42601 I");
        d.ask(0, "SELECT n FROM o LIMIT 999999999999999999", "i (~) SELECT 1 I");
        d.ask(0, "SELECT n FROM o LIMIT 0000000000000000001", "42601 I");
        d.ask(0, "SELECT n FROM o ORDER BY 000000000000000001", "i (~) SELECT 1 I");
        d.ask(0, "SELECT 1.5 FROM o", "42601 I");
    }

    // "TEXTS (between ' and ', each a byte 32 .. 126, with '' for ', at most 31 then)"
    private static void texts() {
        Desk d = desk("texts");
        one(d, "'" + LONG + "'", "t (" + LONG + ")");
        d.ask(0, "SELECT '" + LONG + "2' FROM o", "42601 I");
        one(d, "'" + LONG.substring(1) + "'''", "t (" + LONG.substring(1) + "')");
        d.ask(0, "SELECT '" + LONG + "''' FROM o", "42601 I");
        one(d, "'" + Desk.repeat("''", 31) + "'", "t (" + Desk.repeat("'", 31) + ")");
        d.ask(0, "SELECT '" + Desk.repeat("''", 32) + "' FROM o", "42601 I");
        one(d, "'''', '''''', 'a''', '''a'", "tttt (','',a','a)");
        d.ask(0, "SELECT ''' FROM o", "42601 I");
        d.ask(0, "SELECT ' FROM o", "42601 I");
        d.ask(0, "SELECT 'a''", "42601 I");
        one(d, "' !\"#$%&()*+,-./09:;<=>?@'", "t ( !\"#$%&()*+,-./09:;<=>?@)");
        one(d, "'AZ[\\]^_`az{|}~'", "t (AZ[\\]^_`az{|}~)");
        // Words and signs in a text are none.
        one(d, "'SELECT;FROM', '('", "tt (SELECT;FROM,()");
    }

    // "PARAMETERS ($ and one digit 1 .. 9)"
    private static void parameters() {
        Desk d = desk("parameters");
        d.ask(0, "PREPARE a AS SELECT $9 FROM o", "PREPARE I");
        d.ask(0, "EXECUTE a (1, 2, 3, 4, 5, 6, 7, 8, 'x')", "t (x) SELECT 1 I");
        d.ask(0, "EXECUTE a (1, 2, 3, 4, 5, 6, 7, 8)", "42601 I");
        d.ask(0, "EXECUTE a (1, 2, 3, 4, 5, 6, 7, 8, 'x', 1)", "42601 I");
        d.ask(0, "EXECUTE a (1, 2, 3, 4, 5, 6, 7, 8, 9)", "42804 I");
        d.ask(0, "EXECUTE a (1, 2, 3, 4, 5, 6, 7, 8, NULL)", "t (~) SELECT 1 I");
        d.ask(0, "PREPARE b AS SELECT $1 FROM o", "PREPARE I");
        for (String text : new String[] {"$0", "$", "$$1", "$ 1", "$a", "$10", "$99"}) {
            d.ask(0, "PREPARE c AS SELECT " + text + " FROM o", "42601 I");
        }
        d.ask(0, "PREPARE c AS SELECT $1FROM o", "PREPARE I");
    }

    // "SIGNS ... The longest that can stand at a place does"
    private static void signs() {
        Desk d = desk("signs");
        one(d, "1<2,1<=1,1<>1,2>1,2>=3,1=1,'a'||'b',7%4", "bbbbbbti (t,t,f,t,f,t,ab,3)");
        one(d, "1<-1, 1>-1, 1=-1, 1--1, 1+-1, 1*-1, 1-- -1", "bbbiiii (f,t,f,2,0,-1,0)");
        for (String text : new String[] {"1 < > 2", "1 > = 2", "1 < = 2", "'a' | | 'b'", "1 =< 2", "1 => 2", "1 != 2",
            "1 == 2", "1 <=> 2", "'a'|||'b'", "1 ^ 2", "1 & 2", "~1", "!TRUE", "1 # 2", "\"a\"", "[1]", "{1}", "1 \\ 2"}) {
            d.ask(0, "SELECT " + text + " FROM o", "42601 I");
        }
    }

    // "Blanks (32) between them as one likes, also none."
    private static void blanks() {
        Desk d = desk("blanks");
        d.ask(0, "SELECTn,m,cFROMo", "itb (~,~,~) SELECT 1 I");
        d.ask(0, "SELECT*FROMo", "itb (~,~,~) SELECT 1 I");
        d.ask(0, "SELECT o . n FROM o", "i (~) SELECT 1 I");
        d.ask(0, "SELECT n FROM o LIMIT 1FOR UPDATE", "i (~) SELECT 1 I");
        d.ask(0, "SELECT n FROM o a1LIMIT 1", "i (~) SELECT 1 I");
        d.ask(0, "SELECT'a'FROM o", "t (a) SELECT 1 I");
        d.ask(0, "INSERT INTO o VALUES(1,'a',TRUE)", "INSERT 1 I");
        for (char c : new char[] {9, 10, 11, 13, 0, 31, 127, 160}) {
            d.ask(0, "SELECT n" + c + "FROM o", "42601 I");
        }
    }

    // "What is no token, a word that is not written below among them, is a fault of syntax."
    private static void words() {
        Desk d = desk("words");
        for (String text : new String[] {"SELEC n FROM o", "SELECTS n FROM o", "SELECT n FROM o ASC", "SELECT n AS m FROM o",
            "SELECT n FROM o HAVING TRUE", "SELECT n FROM o OFFSET 1", "SELECT AVG(n) FROM o", "ABORT", "END",
            "START", "COMMITS", "BEGIN READ UNCOMMITTED", "SELECT n FROM o ORDER BY 1 ASC", "SELECT NULLS FROM o",
            "SELECTFROM o", "NOTNULL", "select n from o", "Select n FROM o", "CREATE TABLE p (n INTEGER)"}) {
            d.ask(0, text, "42601 I");
        }
    }
}
