import java.util.Arrays;

/** A database server for six sessions, as ../shared/DOC.md promises it. */
public final class SessionServer {
    private static final int SESSIONS = 6;
    private static final int TAPE = 2000;
    private static final int ANSWER = 16384;
    private static final int TOKENS = 2000;
    private static final int NAMES = 6000;
    private static final int LETTERS = 12000;
    private static final int DEPTH = 20;
    private static final int NODES = 200;
    private static final int ITEMS = 8;
    private static final int JOINED = 3;
    private static final int CLAUSES = 4;
    private static final int TABLES = 8;
    private static final int INDEXES = 8;
    private static final int LEVELS = 8;
    private static final int PREPARED = 8;
    private static final int VERSIONS = 1000;
    private static final int VERSIONS_EVER = 12000;
    private static final int NUMBERS = 4000;
    private static final int ROWS = 2000;
    private static final int COMBINATIONS = 40000;
    private static final int KEPT = 64;
    private static final int RANGES = 8;
    // Far above the rows, targets and statements that one call can come through.
    private static final int STEPS = 1000000;
    // Behind all times, orders and numbers that a run can come to.
    private static final int NEVER = 2147483647;
    private static final long NO_LIMIT = 9223372036854775807L;

    // A cell is four longs: an INT or a BOOL in the first, or the 31 bytes of a TEXT, its first highest.
    private static final int CELL = 4;
    private static final int ROW = 32;
    private static final int TEXT_BYTES = 31;
    // The 32nd byte of a TEXT is 0, so that no TEXT and no INT has this as its last long.
    private static final long NULL_MARK = -1L;

    private static final int INT = 1;
    private static final int TEXT = 2;
    private static final int BOOL = 3;

    private static final int IDLE = 1;
    private static final int IN = 2;
    private static final int FAILED = 3;

    private static final int READ_COMMITTED = 1;
    private static final int REPEATABLE_READ = 2;
    private static final int SERIALIZABLE = 3;

    private static final int RUNNING = 1;
    private static final int COMMITTED = 2;
    private static final int ABORTED = 3;

    private static final int FOR_SHARE = 1;
    private static final int FOR_UPDATE = 2;

    // The modes that each mode of table locks conflicts with, as bits.
    private static final int[] CONFLICTS = {0, 256, 384, 480, 496, 472, 504, 508, 510};

    // What came of a step; an error is the place of its code among CODES, from 1 on.
    private static final int ON = 0;
    private static final int WAITS = -1;
    private static final int POWER = -2;
    private static final int DONE = -3;

    private static final int SYNTAX = 1;
    private static final int TOO_LARGE = 2;
    private static final int TOO_MANY = 3;
    private static final int IS_FAILED = 4;
    private static final int NOT_SERIAL = 5;
    private static final int IN_TRANSACTION = 6;
    private static final int NO_TRANSACTION = 7;
    private static final int NO_TABLE = 8;
    private static final int SAME_NAME = 9;
    private static final int NO_COLUMN = 10;
    private static final int SEVERAL_COLUMNS = 11;
    private static final int WRONG_TYPE = 12;
    private static final int NOT_GROUPED = 13;
    private static final int NO_FOR = 14;
    private static final int TABLE_THERE = 15;
    private static final int FULL = 16;
    private static final int PREPARED_THERE = 17;
    private static final int NO_SAVEPOINT = 18;
    private static final int NO_PREPARED = 19;
    private static final int NO_SPACE = 20;
    private static final int NULL_VALUE = 21;
    private static final int NOT_UNIQUE = 22;
    private static final int RING = 23;
    private static final int CANCELLED = 24;
    private static final int TOO_MANY_KEPT = 25;
    private static final int LONG_ANSWER = 26;
    private static final String CODES =
        "42601540015401125P02400012500125P0142P0142712427034270242804428030A00042P075402342P053B0012600053100235022350540P01570145320054000";

    private static final int CREATE_TABLE = 1;
    private static final int CREATE_INDEX = 2;
    private static final int DROP = 3;
    private static final int INSERT = 4;
    private static final int UPDATE = 5;
    private static final int DELETE = 6;
    private static final int QUERY = 7;
    private static final int BEGIN = 8;
    private static final int COMMIT = 9;
    private static final int ROLLBACK = 10;
    private static final int SAVEPOINT = 11;
    private static final int ROLLBACK_TO = 12;
    private static final int RELEASE = 13;
    private static final int LOCK = 14;
    private static final int PREPARE = 15;
    private static final int EXECUTE = 16;
    private static final int VACUUM = 17;
    private static final int CHECKPOINT = 18;

    // How far a statement has come.
    private static final int NOTHING = 0;
    private static final int LOCKING = 1;
    private static final int BEGINNING = 2;
    private static final int FINDING = 3;
    private static final int PROJECTING = 4;
    private static final int SHOWING = 5;
    private static final int TREATING = 6;
    private static final int WRITING = 7;
    private static final int ACTING = 8;
    private static final int ENDING = 9;

    // Nodes: first those without operands, then those with one, then those with two.
    private static final int N_INT = 1;
    private static final int N_TEXT = 2;
    private static final int N_BOOL = 3;
    private static final int N_NULL = 4;
    private static final int N_PARAMETER = 5;
    private static final int N_PLACE = 6;
    private static final int N_COUNT_ALL = 7;
    private static final int N_NEGATE = 8;
    private static final int N_NOT = 9;
    private static final int N_IS_NULL = 10;
    private static final int N_IS_NOT_NULL = 11;
    private static final int N_COUNT = 12;
    private static final int N_SUM = 13;
    private static final int N_MIN = 14;
    private static final int N_MAX = 15;
    private static final int N_OR = 16;
    private static final int N_AND = 17;
    private static final int N_EQ = 18;
    private static final int N_NE = 19;
    private static final int N_LT = 20;
    private static final int N_LE = 21;
    private static final int N_GT = 22;
    private static final int N_GE = 23;
    private static final int N_JOIN = 24;
    private static final int N_PLUS = 25;
    private static final int N_MINUS = 26;
    private static final int N_TIMES = 27;
    private static final int N_DIVIDE = 28;
    private static final int N_REST = 29;

    // How much an operator binds; a comparison's sides bind more than it.
    private static final int B_OR = 1;
    private static final int B_AND = 2;
    private static final int B_NOT = 3;
    private static final int B_COMPARE = 4;
    private static final int B_JOIN = 5;
    private static final int B_SUM = 6;
    private static final int B_PRODUCT = 7;
    private static final int B_MINUS = 8;

    // Tokens: a word is its place in WORDS, from 1 on.
    private static final String WORDS =
        "CREATE TABLE NOT NULL UNIQUE INT TEXT BOOL INDEX ON DROP INSERT INTO VALUES UPDATE SET WHERE DELETE FROM SELECT DISTINCT GROUP BY ORDER DESC LIMIT FOR SHARE BEGIN READ COMMITTED REPEATABLE SERIALIZABLE COMMIT ROLLBACK SAVEPOINT TO RELEASE LOCK PREPARE AS EXECUTE VACUUM CHECKPOINT ACCESS ROW EXCLUSIVE OR AND IS BETWEEN IN TRUE FALSE COUNT SUM MIN MAX ";
    private static final int W_CREATE = 1;
    private static final int W_TABLE = 2;
    private static final int W_NOT = 3;
    private static final int W_NULL = 4;
    private static final int W_UNIQUE = 5;
    private static final int W_INT = 6;
    private static final int W_BOOL = 8;
    private static final int W_INDEX = 9;
    private static final int W_ON = 10;
    private static final int W_DROP = 11;
    private static final int W_INSERT = 12;
    private static final int W_INTO = 13;
    private static final int W_VALUES = 14;
    private static final int W_UPDATE = 15;
    private static final int W_SET = 16;
    private static final int W_WHERE = 17;
    private static final int W_DELETE = 18;
    private static final int W_FROM = 19;
    private static final int W_SELECT = 20;
    private static final int W_DISTINCT = 21;
    private static final int W_GROUP = 22;
    private static final int W_BY = 23;
    private static final int W_ORDER = 24;
    private static final int W_DESC = 25;
    private static final int W_LIMIT = 26;
    private static final int W_FOR = 27;
    private static final int W_SHARE = 28;
    private static final int W_BEGIN = 29;
    private static final int W_READ = 30;
    private static final int W_COMMITTED = 31;
    private static final int W_REPEATABLE = 32;
    private static final int W_SERIALIZABLE = 33;
    private static final int W_COMMIT = 34;
    private static final int W_ROLLBACK = 35;
    private static final int W_SAVEPOINT = 36;
    private static final int W_TO = 37;
    private static final int W_RELEASE = 38;
    private static final int W_LOCK = 39;
    private static final int W_PREPARE = 40;
    private static final int W_AS = 41;
    private static final int W_EXECUTE = 42;
    private static final int W_VACUUM = 43;
    private static final int W_CHECKPOINT = 44;
    private static final int W_ACCESS = 45;
    private static final int W_ROW = 46;
    private static final int W_EXCLUSIVE = 47;
    private static final int W_OR = 48;
    private static final int W_AND = 49;
    private static final int W_IS = 50;
    private static final int W_BETWEEN = 51;
    private static final int W_IN = 52;
    private static final int W_TRUE = 53;
    private static final int W_FALSE = 54;
    private static final int W_COUNT = 55;
    private static final int W_SUM = 56;
    private static final int W_MAX = 58;
    private static final int T_END = 70;
    private static final int T_NAME = 71;
    private static final int T_NUMBER = 72;
    private static final int T_TEXT = 73;
    private static final int T_PARAMETER = 74;
    private static final int T_OPEN = 75;
    private static final int T_CLOSE = 76;
    private static final int T_COMMA = 77;
    private static final int T_DOT = 78;
    private static final int T_SEMICOLON = 79;
    // These stand in the order of the nodes that they make.
    private static final int T_EQ = 80;
    private static final int T_NE = 81;
    private static final int T_LT = 82;
    private static final int T_LE = 83;
    private static final int T_GT = 84;
    private static final int T_GE = 85;
    private static final int T_JOIN = 86;
    private static final int T_PLUS = 87;
    private static final int T_MINUS = 88;
    private static final int T_STAR = 89;
    private static final int T_DIVIDE = 90;
    private static final int T_REST = 91;

    // A range's flags: none of these is the whole table.
    private static final int R_WHOLE = 0;
    private static final int R_EMPTY = 1;
    private static final int R_LOWER = 2;
    private static final int R_LOWER_IN = 4;
    private static final int R_UPPER = 8;
    private static final int R_UPPER_IN = 16;
    private static final int R_ONE = R_LOWER | R_LOWER_IN | R_UPPER | R_UPPER_IN;

    private final byte[] tape = new byte[TAPE];
    private final Session[] sessions = new Session[SESSIONS];
    private final Store store = new Store();
    private final Ledger ledger = new Ledger();
    private final Serial serial = new Serial(store, ledger);
    private final Machine machine = new Machine(store);
    private final Finder finder = new Finder(store, ledger, serial, machine);
    private final Parser parser = new Parser();
    private final Checker checker = new Checker(store);
    private int taped;
    private int waitsBegun;
    private boolean up = true;

    public SessionServer() {
        for (int s = 0; s < SESSIONS; s++) {
            sessions[s] = new Session(s);
        }
    }

    public boolean feed(int a, int b, int c, int d, int e) {
        if (taped + 20 > TAPE) {
            return false;
        }
        tapeInt(a);
        tapeInt(b);
        tapeInt(c);
        tapeInt(d);
        tapeInt(e);
        return true;
    }

    private void tapeInt(int a) {
        for (int shift = 24; shift >= 0; shift -= 8) {
            tape[taped] = (byte) (a >> shift);
            taped++;
        }
    }

    public boolean open(int s) {
        if (!up || !isSession(s) || sessions[s].open) {
            return false;
        }
        sessions[s].reset();
        sessions[s].open = true;
        return true;
    }

    public boolean close(int s) {
        if (!isSession(s) || !sessions[s].open) {
            return false;
        }
        rollBack(sessions[s]);
        sessions[s].reset();
        pump(nextToGo(), ON);
        return true;
    }

    public int send(int s, int n) {
        if (!isSession(s) || n < 1 || n > taped) {
            return 0;
        }
        Session x = sessions[s];
        if (!x.open || x.waitOrder > 0) {
            return 0;
        }
        taped = 0;
        x.work.clear();
        pump(x, reading(x, n));
        return !up ? 3 : x.waitOrder > 0 ? 2 : 1;
    }

    public long fetch(int s) {
        if (!isSession(s) || !sessions[s].open || sessions[s].waitOrder > 0) {
            return 0;
        }
        Work work = sessions[s].work;
        int n = Math.min(7, work.length - work.taken);
        long answer = (long) n << 56;
        for (int i = 0; i < n; i++) {
            answer |= (work.out[work.taken + i] & 255L) << (48 - 8 * i);
        }
        work.taken += n;
        return answer;
    }

    public boolean cancel(int s) {
        if (!isSession(s) || sessions[s].waitOrder == 0) {
            return false;
        }
        pump(sessions[s], CANCELLED);
        return true;
    }

    public boolean charge(int n) {
        if (!up || n < 0 || n > 999) {
            return false;
        }
        ledger.charge = n;
        return true;
    }

    public boolean start() {
        if (up) {
            return false;
        }
        ledger.abortAll();
        for (int t = 0; t < TABLES; t++) {
            store.sweep(t, ledger, NEVER);
        }
        store.forgetEnds();
        store.made = ledger.savedMade;
        ledger.restore();
        serial.reset();
        up = true;
        return true;
    }

    public int state(int s) {
        if (!isSession(s)) {
            return -1;
        }
        Session x = sessions[s];
        return !x.open ? 0 : x.waitOrder > 0 ? x.mode + 4 : x.mode;
    }

    /** A right server has no rings, and this one keeps no books of them. */
    public int rings() {
        return 0;
    }

    public int count(int what) {
        if (what < 0 || what > 8) {
            return -1;
        }
        if (what == 7) {
            return taped;
        }
        if (!up) {
            return 0;
        }
        switch (what) {
            case 0: return 1;
            case 1: return store.versions;
            case 2: return store.made;
            case 3: return ledger.given;
            case 4: return ledger.commits;
            case 5: return store.tablesThere();
            case 6: return store.indexes;
            default: return waiting();
        }
    }

    private int waiting() {
        int n = 0;
        for (int s = 0; s < SESSIONS; s++) {
            n += sessions[s].waitOrder > 0 ? 1 : 0;
        }
        return n;
    }

    private static boolean isSession(int s) {
        return s >= 0 && s < SESSIONS;
    }

    // ---- reading a message

    private int reading(Session x, int n) {
        Statement st = x.st;
        int r = parser.scan(tape, n, st) ? parser.parse() : SYNTAX;
        if (r == ON) {
            r = when(x, st.kind);
        }
        if (r == ON) {
            r = checker.check(st, st.kind == PREPARE);
        }
        if (r == ON && st.kind == EXECUTE) {
            int p = x.findPrepared(st.name);
            r = values(x, p);
            if (r == ON) {
                byte[] text = x.preparedText[p];
                r = text != null && parser.scan(text, text.length, st) ? parser.parse() : SYNTAX;
            }
            if (r == ON) {
                r = checker.check(st, true);
            }
            if (r == ON && !st.code.takes(x.work.valueType, st.code.parameter)) {
                r = WRONG_TYPE;
            }
        }
        x.work.phase = st.kind == PREPARE || st.tables == 0 ? ACTING : LOCKING;
        return r;
    }

    private int when(Session x, int kind) {
        boolean doomed = x.guard >= 0 && serial.doomed[x.guard];
        if (x.mode == FAILED) {
            if (kind != ROLLBACK && kind != ROLLBACK_TO && kind != COMMIT) {
                return IS_FAILED;
            }
            if (doomed && kind == ROLLBACK_TO) {
                return NOT_SERIAL;
            }
        } else if (doomed && kind != ROLLBACK) {
            return NOT_SERIAL;
        }
        switch (kind) {
            case BEGIN:
            case CREATE_TABLE:
            case CREATE_INDEX:
            case DROP:
            case VACUUM:
            case CHECKPOINT:
                return x.mode == IDLE ? ON : IN_TRANSACTION;
            case COMMIT:
            case ROLLBACK:
            case SAVEPOINT:
            case ROLLBACK_TO:
            case RELEASE:
            case LOCK:
                return x.mode == IDLE ? NO_TRANSACTION : ON;
            default:
                return ON;
        }
    }

    /** The values of EXECUTE for the p-th prepared statement, worked out before that is read anew. */
    private int values(Session x, int p) {
        if (p < 0) {
            return NO_PREPARED;
        }
        Code code = x.st.code;
        if (code.exprs != x.preparedTypes[p][0]) {
            return SYNTAX;
        }
        Arrays.fill(x.work.valueType, 0);
        for (int i = 0; i < code.exprs && i < 9; i++) {
            x.work.valueType[i + 1] = code.type[i];
            machine.work(code, code.from[i], code.to[i]);
            Machine.copy(machine.stack, 0, x.work.values, i * CELL);
        }
        boolean fits = code.takes(x.work.valueType, x.preparedTypes[p]);
        x.work.letNullsFit();
        return fits ? ON : WRONG_TYPE;
    }

    // ---- going on

    /** Goes on with a session, of which something has come already, and then with those that can go on. */
    private void pump(Session first, int came) {
        Session x = first;
        int r = came;
        for (int i = 0; i < STEPS && x != null; i++) {
            if (r == ON) {
                switch (x.work.phase) {
                    case LOCKING: r = lockTables(x); break;
                    case BEGINNING: r = beginCommand(x); break;
                    case FINDING: r = finder.find(x); break;
                    case PROJECTING: r = finder.project(x); break;
                    case SHOWING: r = show(x); break;
                    case TREATING: r = treat(x); break;
                    case WRITING: r = write(x); break;
                    case ACTING: r = act(x); break;
                    case ENDING: r = finish(x); break;
                    default: r = DONE; break;
                }
            }
            if (r == POWER) {
                fall();
                return;
            }
            if (r > 0) {
                fail(x, r);
            }
            if (r != ON) {
                x = nextToGo();
                r = ON;
            }
        }
    }

    private void fall() {
        up = false;
        for (int s = 0; s < SESSIONS; s++) {
            sessions[s].reset();
        }
    }

    /** The first session, in the order of waiting, whose wait is over; it waits no more. */
    private Session nextToGo() {
        Session best = null;
        for (int s = 0; s < SESSIONS; s++) {
            Session x = sessions[s];
            if (x.waitOrder > 0 && (best == null || x.waitOrder < best.waitOrder) && canGo(x)) {
                best = x;
            }
        }
        if (best != null) {
            best.waitOrder = 0;
            best.work.granted = best.waitNumber == 0;
        }
        return best;
    }

    private boolean canGo(Session x) {
        if (x.waitNumber > 0) {
            return ledger.status[x.waitNumber] != RUNNING;
        }
        int i = x.work.at;
        return store.tables[x.st.slot[i]].serial != x.st.serial[i]
            || blockers(x, x.st.slot[i], x.st.lockMode(i), x.waitOrder) == 0;
    }

    /** The sessions, as bits, that hold or asked for, before order, what is in the way of a table lock. */
    private int blockers(Session x, int slot, int mode, int order) {
        int found = 0;
        for (int s = 0; s < SESSIONS; s++) {
            Session y = sessions[s];
            if (s == x.id) {
                continue;
            }
            int modes = y.heldModes(slot);
            if (y.waitOrder > 0 && y.waitOrder < order && y.waitNumber == 0
                && y.st.slot[y.work.at] == slot && y.st.serial[y.work.at] == store.tables[slot].serial) {
                modes |= 1 << y.st.lockMode(y.work.at);
            }
            if ((modes & CONFLICTS[mode]) != 0) {
                found |= 1 << s;
            }
        }
        return found;
    }

    /** Waits for a number, or for a table lock (number 0), unless that would make a ring. */
    private int beginWait(Session x, int number, int blockers) {
        int reached = blockers;
        for (int step = 0; step < SESSIONS; step++) {
            for (int s = 0; s < SESSIONS; s++) {
                Session y = sessions[s];
                if ((reached >> s & 1) == 0 || y.waitOrder == 0) {
                    continue;
                }
                if (y.waitNumber == 0) {
                    int i = y.work.at;
                    reached |= blockers(y, y.st.slot[i], y.st.lockMode(i), y.waitOrder);
                } else if (ledger.status[y.waitNumber] == RUNNING) {
                    reached |= 1 << ledger.owner[y.waitNumber];
                }
            }
        }
        if ((reached >> x.id & 1) != 0) {
            return RING;
        }
        waitsBegun++;
        x.waitOrder = waitsBegun;
        x.waitNumber = number;
        return WAITS;
    }

    private int lockTables(Session x) {
        Statement st = x.st;
        Work work = x.work;
        for (; work.at < st.tables; work.at++) {
            int slot = st.slot[work.at];
            int mode = st.lockMode(work.at);
            if (store.tables[slot].serial != st.serial[work.at]) {
                return NO_TABLE;
            }
            if (!work.granted && (x.heldModes(slot) >> mode & 1) == 0) {
                int blockers = blockers(x, slot, mode, NEVER);
                if (blockers != 0) {
                    return beginWait(x, 0, blockers);
                }
            }
            work.granted = false;
            x.held[x.top * TABLES + slot] |= 1 << mode;
        }
        work.at = 0;
        work.phase = st.isCommand() ? BEGINNING : ACTING;
        return ON;
    }

    // ---- commands: queries, INSERT, UPDATE, DELETE

    private int beginCommand(Session x) {
        if (x.snapshot == 0 || x.isolation == READ_COMMITTED) {
            ledger.clock++;
            if (x.isolation == SERIALIZABLE) {
                x.guard = serial.admit(ledger.clock);
                if (x.guard < 0) {
                    return TOO_MANY_KEPT;
                }
            }
            x.snapshot = ledger.clock;
        }
        x.command++;
        x.work.rows = x.st.rows;
        x.work.phase = x.st.rows > 0 ? TREATING : FINDING;
        return ON;
    }

    /** What was found is answered, or kept to be treated. */
    private int show(Session x) {
        Work work = x.work;
        Statement st = x.st;
        work.phase = TREATING;
        if (st.kind == QUERY) {
            work.putTypes(st.code);
        }
        if (st.kind == INSERT) {
            finder.keepRows(work);
        } else if (st.kind == QUERY && st.mode == 0) {
            finder.answer(work, st.code);
            work.done = finder.results;
            work.phase = ENDING;
        } else {
            finder.keepTargets(x);
        }
        return ON;
    }

    /** Treats the next row or target as far as what is written for it. */
    private int treat(Session x) {
        Work work = x.work;
        Statement st = x.st;
        if (work.at >= work.rows) {
            work.phase = ENDING;
            return ON;
        }
        machine.values = work.values;
        if (st.kind == INSERT) {
            fillRow(x);
            work.phase = WRITING;
            return ON;
        }
        int r = follow(x);
        if (r != ON) {
            return r;
        }
        int v = work.targets[work.at];
        if (v < 0) {
            work.at++;
            return ON;
        }
        int least = store.leastLock(v, x.id, st.mode != FOR_SHARE, ledger);
        if (least > 0) {
            return beginWait(x, least, 1 << ledger.owner[least]);
        }
        if (st.kind == QUERY) {
            return lockRow(x, v);
        }
        if (st.kind == UPDATE) {
            newValues(x, v);
        }
        work.phase = WRITING;
        return ON;
    }

    /** Looks at the end of a target, and goes from version to version; -1 stands for a target left out. */
    private int follow(Session x) {
        int[] targets = x.work.targets;
        int at = x.work.at;
        for (int i = 0; i <= VERSIONS && targets[at] >= 0; i++) {
            int end = store.end[targets[at]];
            if (end == 0 || ledger.status[end] == ABORTED) {
                return ON;
            }
            if (ledger.status[end] == RUNNING && ledger.owner[end] != x.id) {
                return beginWait(x, end, 1 << ledger.owner[end]);
            }
            if (ledger.status[end] == COMMITTED && x.isolation != READ_COMMITTED) {
                return NOT_SERIAL;
            }
            int next = ledger.status[end] == COMMITTED ? store.next[targets[at]] : -1;
            machine.row[0] = next;
            targets[at] = next >= 0 && machine.isTrue(x.st.code) ? next : -1;
        }
        return ON;
    }

    private int lockRow(Session x, int v) {
        if (!ledger.give(x)) {
            return NO_SPACE;
        }
        Code code = x.st.code;
        store.lockRow(v, x.id, x.st.mode, x.number[x.top], ledger);
        machine.row[0] = v;
        int mark = x.work.beginFrame('D');
        for (int i = 0; i < code.exprs; i++) {
            machine.work(code, code.from[i], code.to[i]);
            x.work.putCell(machine.stack, 0, code.type[i]);
        }
        x.work.endFrame(mark);
        x.work.at++;
        x.work.done++;
        return ON;
    }

    private void fillRow(Session x) {
        Work work = x.work;
        Statement st = x.st;
        if (work.cells != null && st.rows == 0) {
            System.arraycopy(work.cells, work.at * ROW, work.row, 0, ROW);
            return;
        }
        Code code = st.code;
        int first = work.at == 0 ? 0 : st.rowEnd[work.at - 1];
        for (int i = first; i < st.rowEnd[work.at] && i < first + ITEMS; i++) {
            machine.work(code, code.from[i], code.to[i]);
            Machine.copy(machine.stack, 0, work.row, (i - first) * CELL);
        }
    }

    private void newValues(Session x, int v) {
        Code code = x.st.code;
        machine.row[0] = v;
        System.arraycopy(store.values, v * ROW, x.work.row, 0, ROW);
        for (int i = 0; i < code.exprs; i++) {
            machine.work(code, code.from[i], code.to[i]);
            Machine.copy(machine.stack, 0, x.work.row, x.st.column[i] * CELL);
        }
    }

    /** Writes what treat() has found; a wait here goes back to treating. */
    private int write(Session x) {
        Work work = x.work;
        int kind = x.st.kind;
        int old = kind == INSERT ? -1 : work.targets[work.at];
        work.phase = TREATING;
        int r = ON;
        if (kind != DELETE) {
            r = constraints(x, old);
            if (r == ON && (store.versions >= VERSIONS || store.made >= VERSIONS_EVER)) {
                r = NO_SPACE;
            }
        }
        if (r == ON && !ledger.give(x)) {
            r = NO_SPACE;
        }
        if (r == ON && old >= 0) {
            r = endVersion(x, old);
        }
        if (r == ON && kind != DELETE) {
            r = makeVersion(x, old);
        }
        if (r == ON) {
            work.at++;
            work.done++;
        }
        return r;
    }

    private int constraints(Session x, int old) {
        int slot = x.st.slot[0];
        Table table = store.tables[slot];
        for (int c = 0; c < table.columns; c++) {
            if (table.notNull[c] && Machine.isNull(x.work.row, c * CELL)) {
                return NULL_VALUE;
            }
        }
        for (int i = 0; i < store.indexes; i++) {
            int c = store.indexColumn[i];
            if (store.indexTable[i] != slot || !store.indexUnique[i] || Machine.isNull(x.work.row, c * CELL)) {
                continue;
            }
            int r = unique(x, table, c, old);
            if (r != ON) {
                return r;
            }
        }
        return ON;
    }

    private int unique(Session x, Table table, int column, int old) {
        if (x.guard >= 0) {
            finder.oneValue(x.work.row, column * CELL, 0);
            serial.read(x.guard, x.st.slot[0], column, R_ONE, finder.bounds, 0);
            if (serial.readFails(x.guard)) {
                return NOT_SERIAL;
            }
        }
        int first = NEVER;
        int verdict = ON;
        for (int i = 0; i < table.versions; i++) {
            int v = table.order[i];
            if (v != old && store.number[v] < first
                && Machine.compare(store.values, v * ROW + column * CELL, x.work.row, column * CELL) == 0) {
                int found = verdict(x, v);
                if (found != ON) {
                    verdict = found;
                    first = store.number[v];
                }
            }
        }
        return verdict < 0 ? beginWait(x, -verdict, 1 << ledger.owner[-verdict]) : verdict;
    }

    /** What a version with a like value means: nothing, an error, or less than 0 for a number to wait for. */
    private int verdict(Session x, int v) {
        int maker = store.maker[v];
        if (ledger.status[maker] == ABORTED) {
            return ON;
        }
        if (ledger.status[maker] == RUNNING && ledger.owner[maker] != x.id) {
            return -maker;
        }
        if (!knows(x, maker)) {
            return NOT_SERIAL;
        }
        int end = store.end[v];
        if (end == 0 || ledger.status[end] == ABORTED) {
            return NOT_UNIQUE;
        }
        if (ledger.status[end] == RUNNING && ledger.owner[end] != x.id) {
            return -end;
        }
        return knows(x, end) ? ON : NOT_SERIAL;
    }

    private boolean knows(Session x, int number) {
        return ledger.status[number] == RUNNING || x.isolation == READ_COMMITTED
            || ledger.committedAt[number] < x.snapshot;
    }

    private int endVersion(Session x, int v) {
        if (ledger.powerGoes()) {
            return POWER;
        }
        store.end[v] = x.number[x.top];
        store.endCommand[v] = x.command;
        store.next[v] = -1;
        return x.guard >= 0 && serial.wroteFails(x.guard, x.st.slot[0], v) ? NOT_SERIAL : ON;
    }

    private int makeVersion(Session x, int old) {
        if (ledger.powerGoes()) {
            return POWER;
        }
        int v = store.make(x.st.slot[0], x.work.row, x.number[x.top], x.command);
        if (old >= 0) {
            store.next[old] = v;
        }
        return x.guard >= 0 && serial.wroteFails(x.guard, x.st.slot[0], v) ? NOT_SERIAL : ON;
    }

    // ---- statements that are no commands

    private int act(Session x) {
        int r;
        switch (x.st.kind) {
            case CREATE_TABLE:
            case CREATE_INDEX:
            case DROP:
            case CHECKPOINT:
            case VACUUM:
                r = actOnTables(x);
                break;
            case PREPARE:
                r = prepare(x);
                break;
            default:
                r = actOnTransaction(x);
                break;
        }
        x.work.phase = ENDING;
        return r;
    }

    private int actOnTables(Session x) {
        Statement st = x.st;
        int r = st.kind == CREATE_TABLE ? store.refusesTable(st)
            : st.kind == CREATE_INDEX ? store.refusesIndex(st, ledger) : ON;
        if (r != ON) {
            return r;
        }
        if (ledger.powerGoes()) {
            return POWER;
        }
        switch (st.kind) {
            case CREATE_TABLE:
                store.addTable(st);
                break;
            case CREATE_INDEX:
                store.addIndex(st.slot[0], st.column[0], st.unique());
                break;
            case DROP:
                store.dropTable(st.slot[0]);
                serial.forget(st.slot[0]);
                break;
            case VACUUM:
                x.work.done = store.sweep(st.slot[0], ledger, oldestSnapshot());
                break;
            default:
                break;
        }
        if (ledger.powerGoes()) {
            return POWER;
        }
        ledger.save(store.made);
        return ON;
    }

    private int oldestSnapshot() {
        int oldest = NEVER;
        for (int s = 0; s < SESSIONS; s++) {
            if (sessions[s].snapshot > 0) {
                oldest = Math.min(oldest, sessions[s].snapshot);
            }
        }
        return oldest;
    }

    private int prepare(Session x) {
        if (x.findPrepared(x.st.name) >= 0) {
            return PREPARED_THERE;
        }
        int p = x.findPrepared(0);
        if (p < 0) {
            return FULL;
        }
        x.preparedName[p] = x.st.name;
        x.preparedText[p] = Arrays.copyOfRange(tape, parser.bodyStart, parser.length);
        for (int i = 1; i <= 9; i++) {
            x.preparedTypes[p][i] = x.st.code.parameter[i];
        }
        x.preparedTypes[p][0] = x.st.code.highest;
        return ON;
    }

    private int actOnTransaction(Session x) {
        switch (x.st.kind) {
            case BEGIN:
                x.mode = IN;
                x.isolation = x.st.mode;
                return ON;
            case COMMIT:
                if (x.mode == FAILED) {
                    rollBack(x);
                    x.mode = IDLE;
                    return ON;
                }
                return commit(x);
            case ROLLBACK:
                rollBack(x);
                x.mode = IDLE;
                return ON;
            case SAVEPOINT:
            case ROLLBACK_TO:
            case RELEASE:
                return savepoint(x);
            default:
                return ON;
        }
    }

    private int savepoint(Session x) {
        if (x.st.kind == SAVEPOINT) {
            if (x.top + 1 >= LEVELS) {
                return FULL;
            }
            x.top++;
            x.savepoint[x.top] = x.st.name;
            return ON;
        }
        int level = x.top;
        for (; level > 0; level--) {
            if (x.savepoint[level] == x.st.name) {
                break;
            }
        }
        if (level == 0) {
            return NO_SAVEPOINT;
        }
        if (x.st.kind == RELEASE) {
            ledger.lower(x.id, level);
            x.lowerLocks(level);
        } else {
            undoLevels(x, level);
            x.mode = IN;
        }
        return ON;
    }

    /** Ends a transaction, or what a statement without one has; nothing is left of it then but its versions. */
    private int commit(Session x) {
        boolean numbered = x.number[0] > 0;
        if (numbered && ledger.powerGoes()) {
            return POWER;
        }
        ledger.clock++;
        ledger.settle(x.id, 0, COMMITTED);
        if (numbered) {
            ledger.commits++;
            ledger.save(store.made);
        }
        if (x.guard >= 0) {
            serial.commit(x.guard, ledger.clock);
        }
        if (numbered && ledger.powerGoes()) {
            return POWER;
        }
        x.mode = IDLE;
        x.endTransaction();
        return ON;
    }

    private void rollBack(Session x) {
        ledger.settle(x.id, 0, ABORTED);
        if (x.guard >= 0) {
            serial.remove(x.guard);
        }
        x.endTransaction();
    }

    private void undoLevels(Session x, int level) {
        ledger.settle(x.id, level, ABORTED);
        x.clearLevels(level);
    }

    private int finish(Session x) {
        x.work.putTag(x.st.kind, x.work.done);
        x.work.putState(x.mode);
        if (x.st.kind == QUERY && x.work.over) {
            return LONG_ANSWER;
        }
        x.work.phase = NOTHING;
        if (x.mode == IDLE) {
            int r = commit(x);
            if (r != ON) {
                return r;
            }
        }
        return DONE;
    }

    private void fail(Session x, int code) {
        if (x.guard >= 0 && (code == NOT_SERIAL || code == RING || code == CANCELLED || code == NO_SPACE)) {
            serial.doomed[x.guard] = true;
        }
        if (x.top == 0) {
            rollBack(x);
        } else {
            undoLevels(x, x.top);
        }
        if (x.mode != IDLE) {
            x.mode = FAILED;
        }
        x.waitOrder = 0;
        x.work.clear();
        x.work.putError(code);
        x.work.putState(x.mode);
    }

    /** A session, with its transaction or that of a statement without one. */
    private static final class Session {
        final int id;
        final Statement st = new Statement();
        final Work work = new Work();
        final int[] savepoint = new int[LEVELS];
        final int[] number = new int[LEVELS];
        // By level and table, the modes as bits.
        final int[] held = new int[LEVELS * TABLES];
        final int[] preparedName = new int[PREPARED];
        final byte[][] preparedText = new byte[PREPARED][];
        // By prepared statement: its highest parameter, and the type of each.
        final int[][] preparedTypes = new int[PREPARED][10];
        boolean open;
        int mode = IDLE;
        int isolation = READ_COMMITTED;
        int top;
        int command;
        int snapshot;
        // Its place among the serializable transactions that are kept, or -1.
        int guard = -1;
        // 0 unless it waits; then for a number, or for the table lock that its statement has come to.
        int waitOrder;
        int waitNumber;

        Session(int id) {
            this.id = id;
        }

        void reset() {
            endTransaction();
            open = false;
            mode = IDLE;
            waitOrder = 0;
            work.clear();
            Arrays.fill(preparedName, 0);
        }

        void endTransaction() {
            clearLevels(0);
            isolation = READ_COMMITTED;
            command = 0;
            snapshot = 0;
            guard = -1;
        }

        void clearLevels(int level) {
            for (int l = level; l < LEVELS; l++) {
                number[l] = 0;
                for (int t = 0; t < TABLES; t++) {
                    held[l * TABLES + t] = 0;
                }
            }
            top = level;
        }

        void lowerLocks(int level) {
            for (int l = level; l <= top; l++) {
                for (int t = 0; t < TABLES; t++) {
                    held[(level - 1) * TABLES + t] |= held[l * TABLES + t];
                }
            }
            clearLevels(level);
            top = level - 1;
        }

        int heldModes(int slot) {
            int modes = 0;
            for (int l = 0; l <= top; l++) {
                modes |= held[l * TABLES + slot];
            }
            return modes;
        }

        int findPrepared(int name) {
            for (int p = 0; p < PREPARED; p++) {
                if (preparedName[p] == name) {
                    return p;
                }
            }
            return -1;
        }
    }

    /** A statement in progress, which may wait, and its answer. */
    private static final class Work {
        final byte[] out = new byte[ANSWER];
        final int[] targets = new int[ROWS];
        final long[] row = new long[ROW];
        final long[] values = new long[9 * CELL];
        final int[] valueType = new int[10];
        // Rows of a query in INSERT; most sessions never need them.
        long[] cells;
        int length;
        int taken;
        boolean over;
        int phase;
        int at;
        int rows;
        int done;
        boolean granted;

        void clear() {
            length = 0;
            taken = 0;
            over = false;
            phase = NOTHING;
            at = 0;
            rows = 0;
            done = 0;
            granted = false;
        }

        /** NULL is a value of each type, whatever the type of the expression that came to it. */
        void letNullsFit() {
            for (int i = 0; i < 9; i++) {
                if (Machine.isNull(values, i * CELL)) {
                    valueType[i + 1] = 0;
                }
            }
        }

        private void put(int b) {
            if (length < ANSWER) {
                out[length] = (byte) b;
                length++;
            } else {
                over = true;
            }
        }

        int beginFrame(char kind) {
            int mark = length;
            put(kind);
            put(0);
            put(0);
            return mark;
        }

        void endFrame(int mark) {
            int size = length - mark - 3;
            if (size >= 0) {
                out[mark + 1] = (byte) (size >> 8);
                out[mark + 2] = (byte) size;
            }
        }

        void putTypes(Code code) {
            int mark = beginFrame('T');
            put(code.exprs);
            for (int i = 0; i < code.exprs; i++) {
                put(code.type[i] == INT ? 'i' : code.type[i] == BOOL ? 'b' : 't');
            }
            endFrame(mark);
        }

        void putCell(long[] a, int i, int type) {
            if (Machine.isNull(a, i)) {
                put(255);
            } else if (type == INT) {
                int digits = digits(a[i]);
                put(a[i] < 0 ? digits + 1 : digits);
                putInt(a[i], digits);
            } else if (type == BOOL) {
                put(1);
                put(a[i] != 0 ? 't' : 'f');
            } else {
                int n = Machine.textLength(a, i);
                put(n);
                for (int k = 0; k < n; k++) {
                    put(Machine.byteAt(a, i, k));
                }
            }
        }

        // Below 0 every long has its negation, so that digits are taken there.
        private static int digits(long value) {
            long rest = value < 0 ? value : -value;
            int n = 1;
            for (; n < 20 && rest <= -10; n++) {
                rest /= 10;
            }
            return n;
        }

        private void putInt(long value, int digits) {
            long rest = value < 0 ? value : -value;
            if (value < 0) {
                put('-');
            }
            long unit = 1;
            for (int i = 1; i < digits; i++) {
                unit *= 10;
            }
            for (int i = 0; i < digits && unit > 0; i++) {
                put('0' - (int) (rest / unit % 10));
                unit /= 10;
            }
        }

        void putTag(int kind, int n) {
            String word = tag(kind);
            int mark = beginFrame('C');
            for (int i = 0; i < word.length(); i++) {
                put(word.charAt(i));
            }
            if (kind == QUERY || kind == INSERT || kind == UPDATE || kind == DELETE || kind == VACUUM) {
                put(' ');
                putInt(n, digits(n));
            }
            endFrame(mark);
        }

        private static String tag(int kind) {
            switch (kind) {
                case CREATE_TABLE:
                case CREATE_INDEX: return "CREATE";
                case DROP: return "DROP";
                case INSERT: return "INSERT";
                case UPDATE: return "UPDATE";
                case DELETE: return "DELETE";
                case QUERY: return "SELECT";
                case BEGIN: return "BEGIN";
                case COMMIT: return "COMMIT";
                case ROLLBACK:
                case ROLLBACK_TO: return "ROLLBACK";
                case SAVEPOINT: return "SAVEPOINT";
                case RELEASE: return "RELEASE";
                case LOCK: return "LOCK";
                case PREPARE: return "PREPARE";
                case VACUUM: return "VACUUM";
                default: return "CHECKPOINT";
            }
        }

        void putError(int code) {
            int mark = beginFrame('E');
            for (int i = 0; i < 5; i++) {
                put(CODES.charAt((code - 1) * 5 + i));
            }
            endFrame(mark);
        }

        void putState(int mode) {
            int mark = beginFrame('Z');
            put(mode == IDLE ? 'I' : mode == IN ? 'T' : 'F');
            endFrame(mark);
        }
    }

    /** The nodes of a statement's expressions, operands before what works on them. */
    private static final class Code {
        // One more than * can add: where nodes beyond the limit go, which are looked at no more.
        private static final int BEYOND = NODES + ITEMS;
        final int[] op = new int[BEYOND + 1];
        // Of a place its table's name (0 for none) and its own; then its table and column. Of a parameter its number.
        final int[] left = new int[BEYOND + 1];
        final int[] right = new int[BEYOND + 1];
        // Where the first of its operands' nodes stands.
        final int[] begin = new int[BEYOND + 1];
        // Behind the operand's first node of an aggregate: the aggregate's place, and 1.
        final int[] skip = new int[BEYOND + 1];
        final long[] constant = new long[(BEYOND + 1) * CELL];
        final int[] from = new int[BEYOND + 1];
        final int[] to = new int[BEYOND + 1];
        final int[] type = new int[BEYOND + 1];
        final int[] parameter = new int[10];
        int size;
        int exprs;
        int highest;
        int whereFrom;
        int whereTo;
        boolean over;
        boolean tooMany;
        boolean aggregates;

        void clear() {
            size = 0;
            exprs = 0;
            highest = 0;
            whereFrom = 0;
            whereTo = 0;
            over = false;
            tooMany = false;
            aggregates = false;
            Arrays.fill(skip, 0);
        }

        int add(int what, int start) {
            int n = BEYOND;
            if (size < NODES) {
                n = size;
                size++;
            } else {
                over = true;
            }
            op[n] = what;
            begin[n] = start;
            return n;
        }

        void addCopy(int first, int behind) {
            int shift = size - first;
            for (int i = first; i < behind; i++) {
                int n = add(op[i], begin[i] + shift);
                left[n] = left[i];
                right[n] = right[i];
                System.arraycopy(constant, i * CELL, constant, n * CELL, CELL);
            }
        }

        void addExpression(int start) {
            if (exprs < NODES) {
                from[exprs] = start;
                to[exprs] = size;
                exprs++;
            }
        }

        /** The columns that * stands for are places too, behind all others. */
        void addItem(int table, int column, int columnType) {
            if (size < BEYOND && exprs < ITEMS) {
                op[size] = N_PLACE;
                left[size] = table;
                right[size] = column;
                begin[size] = size;
                from[exprs] = size;
                to[exprs] = size + 1;
                type[exprs] = columnType;
                size++;
                exprs++;
            }
        }

        boolean isAggregate(int i) {
            return op[i] == N_COUNT_ALL || op[i] >= N_COUNT && op[i] <= N_MAX;
        }

        /** Whether the values' types fit the parameters'; 0 is no type, and fits. */
        boolean takes(int[] valueType, int[] parameterType) {
            for (int i = 1; i <= 9; i++) {
                if (valueType[i] != 0 && parameterType[i] != 0 && valueType[i] != parameterType[i]) {
                    return false;
                }
            }
            return true;
        }
    }

    /** What a message says, apart from its expressions. */
    private static final class Statement {
        private static final int NOT_NULL_BIT = 4;
        private static final int UNIQUE_BIT = 8;
        final Code code = new Code();
        // All tables from the left; the first is what INSERT fills, the query's are behind it then.
        // Their names, then their places in the store; the names that count; and which tables they are.
        final int[] slot = new int[JOINED + 1];
        final int[] alias = new int[JOINED + 1];
        final int[] serial = new int[JOINED + 1];
        // Columns that are made, set or indexed: names, then places in their table; and their types, with bits.
        final int[] column = new int[ITEMS];
        final int[] columnKind = new int[ITEMS];
        final int[] rowEnd = new int[NODES];
        final int[] group = new int[CLAUSES];
        // Numbers of items, below 0 with DESC.
        final int[] order = new int[CLAUSES];
        int kind;
        // What PREPARE holds, otherwise the same as kind.
        int body;
        int name;
        // LOCK's mode of table locks, BEGIN's isolation level, or a query's FOR_SHARE, FOR_UPDATE or 0.
        int mode;
        int tables;
        int columns;
        int rows;
        int groups;
        int orders;
        boolean distinct;
        long limit;

        void clear() {
            code.clear();
            kind = 0;
            body = 0;
            name = 0;
            mode = 0;
            tables = 0;
            columns = 0;
            rows = 0;
            groups = 0;
            orders = 0;
            distinct = false;
            limit = NO_LIMIT;
        }

        void become(int what) {
            kind = what;
            body = what;
        }

        boolean isCommand() {
            return kind >= INSERT && kind <= QUERY;
        }

        /** The place of the query's first table, or of the one that UPDATE and DELETE speak of. */
        int first() {
            return body == INSERT ? 1 : 0;
        }

        boolean isQuery() {
            return body == QUERY || body == INSERT && rows == 0;
        }

        boolean unique() {
            return (columnKind[0] & UNIQUE_BIT) != 0;
        }

        int lockMode(int table) {
            switch (kind) {
                case QUERY: return mode == 0 ? 1 : 2;
                case INSERT: return table == 0 ? 3 : 1;
                case VACUUM: return 4;
                case CREATE_INDEX: return 5;
                case DROP: return 8;
                case LOCK: return mode;
                default: return 3;
            }
        }

        void addTable(int tableNamed, int alsoNamed) {
            if (tables > JOINED || tables == JOINED && body != INSERT) {
                code.tooMany = true;
                return;
            }
            slot[tables] = tableNamed;
            alias[tables] = alsoNamed != 0 ? alsoNamed : tableNamed;
            tables++;
        }

        void addColumn(int columnNamed, int columnType) {
            if (columns >= ITEMS) {
                code.tooMany = true;
                return;
            }
            column[columns] = columnNamed;
            columnKind[columns] = columnType;
            columns++;
        }

        boolean namesTwice() {
            for (int i = 1; i < columns; i++) {
                for (int j = 0; j < i; j++) {
                    if (column[i] == column[j]) {
                        return true;
                    }
                }
            }
            return false;
        }
    }

    /** Reads messages: tokens and syntax. */
    private static final class Parser {
        final int[] token = new int[TOKENS + 1];
        final long[] value = new long[TOKENS + 1];
        final int[] starts = new int[TOKENS + 1];
        // Names, each known by its place from 1 on, so that names are compared as numbers.
        final byte[] letters = new byte[LETTERS];
        final int[] nameEnd = new int[NAMES + 1];
        int names;
        int tokens;
        int at;
        boolean inItems;
        byte[] text;
        int length;
        int bodyStart;
        Statement st;
        Code code;

        /** Takes a message into tokens, for a statement that is read next. */
        boolean scan(byte[] message, int size, Statement statement) {
            text = message;
            length = size;
            st = statement;
            code = statement.code;
            st.clear();
            at = 0;
            inItems = false;
            tokens = 0;
            int i = 0;
            for (int n = 0; n <= length && i < length; n++) {
                if (text[i] == ' ') {
                    i++;
                    continue;
                }
                starts[tokens] = i;
                i = scanToken(i, text[i]);
                if (i < 0) {
                    return false;
                }
                tokens++;
            }
            token[tokens] = T_END;
            return true;
        }

        /** Reads the statement that the tokens make. */
        int parse() {
            int prepared = 0;
            boolean good = true;
            if (accept(W_PREPARE)) {
                prepared = name();
                good = prepared != 0 && accept(W_AS);
                bodyStart = starts[at];
            }
            int word = token[at];
            switch (good ? word : 0) {
                case W_SELECT:
                    st.become(QUERY);
                    good = query();
                    break;
                case W_INSERT:
                    st.become(INSERT);
                    good = insertInto() && (accept(W_VALUES) ? rows() : query());
                    break;
                case W_UPDATE:
                    st.become(UPDATE);
                    good = settings();
                    break;
                case W_DELETE:
                    st.become(DELETE);
                    at++;
                    good = accept(W_FROM) && table() && where();
                    break;
                case W_EXECUTE:
                    good = prepared == 0 && execute();
                    break;
                default:
                    good = good && prepared == 0 && other(word);
                    break;
            }
            if (prepared != 0) {
                st.kind = PREPARE;
                st.name = prepared;
            }
            accept(T_SEMICOLON);
            if (!good || token[at] != T_END) {
                return SYNTAX;
            }
            return code.over ? TOO_LARGE : code.tooMany ? TOO_MANY : ON;
        }

        /** Where the token ends that begins at i, or -1. */
        private int scanToken(int i, int c) {
            if (c >= 'A' && c <= 'Z') {
                return scanWord(i);
            }
            if (isSmall(c)) {
                return scanName(i);
            }
            if (isDigit(c)) {
                return scanNumber(i);
            }
            if (c == '\'') {
                return scanText(i);
            }
            if (c == '$') {
                boolean good = i + 1 < length && isDigit(text[i + 1]) && text[i + 1] != '0';
                token[tokens] = T_PARAMETER;
                value[tokens] = good ? text[i + 1] - '0' : 0;
                return good ? i + 2 : -1;
            }
            int follower = i + 1 < length ? text[i + 1] : 0;
            int kind = sign(c, follower);
            token[tokens] = kind;
            boolean two = kind == T_NE || kind == T_LE || kind == T_GE || kind == T_JOIN;
            return kind == 0 ? -1 : two ? i + 2 : i + 1;
        }

        private static int sign(int c, int follower) {
            switch (c) {
                case '(': return T_OPEN;
                case ')': return T_CLOSE;
                case ',': return T_COMMA;
                case '.': return T_DOT;
                case ';': return T_SEMICOLON;
                case '*': return T_STAR;
                case '=': return T_EQ;
                case '+': return T_PLUS;
                case '-': return T_MINUS;
                case '/': return T_DIVIDE;
                case '%': return T_REST;
                case '<': return follower == '>' ? T_NE : follower == '=' ? T_LE : T_LT;
                case '>': return follower == '=' ? T_GE : T_GT;
                case '|': return follower == '|' ? T_JOIN : 0;
                default: return 0;
            }
        }

        private static boolean isSmall(int c) {
            return c >= 'a' && c <= 'z';
        }

        private static boolean isDigit(int c) {
            return c >= '0' && c <= '9';
        }

        private int scanWord(int from) {
            int to = from;
            for (; to < length && text[to] >= 'A' && text[to] <= 'Z'; to++) {
            }
            int word = 1;
            int k = 0;
            boolean same = true;
            for (int i = 0; i < WORDS.length(); i++) {
                char c = WORDS.charAt(i);
                if (c != ' ') {
                    same = same && from + k < to && text[from + k] == c;
                    k++;
                    continue;
                }
                if (same && from + k == to) {
                    token[tokens] = word;
                    return to;
                }
                word++;
                k = 0;
                same = true;
            }
            return -1;
        }

        private int scanName(int from) {
            int to = from;
            for (; to < length && (isSmall(text[to]) || isDigit(text[to]) || text[to] == '_'); to++) {
            }
            int name = to - from > 16 ? 0 : nameOf(from, to - from);
            token[tokens] = T_NAME;
            value[tokens] = name;
            return name == 0 ? -1 : to;
        }

        private int nameOf(int from, int size) {
            for (int n = 1; n <= names; n++) {
                int start = nameEnd[n - 1];
                if (nameEnd[n] - start != size) {
                    continue;
                }
                int k = 0;
                for (; k < size && letters[start + k] == text[from + k]; k++) {
                }
                if (k == size) {
                    return n;
                }
            }
            if (names >= NAMES || nameEnd[names] + size > LETTERS) {
                return 0;
            }
            System.arraycopy(text, from, letters, nameEnd[names], size);
            names++;
            nameEnd[names] = nameEnd[names - 1] + size;
            return names;
        }

        private int scanNumber(int from) {
            int to = from;
            long number = 0;
            for (; to < length && isDigit(text[to]); to++) {
                number = number * 10 + (text[to] - '0');
            }
            token[tokens] = T_NUMBER;
            value[tokens] = number;
            return to - from > 18 ? -1 : to;
        }

        private int scanText(int from) {
            int size = 0;
            token[tokens] = T_TEXT;
            for (int i = from + 1; i < length; i++) {
                if (text[i] == '\'') {
                    if (i + 1 >= length || text[i + 1] != '\'') {
                        return size > TEXT_BYTES ? -1 : i + 1;
                    }
                    i++;
                }
                if (text[i] < 32 || text[i] > 126) {
                    return -1;
                }
                size++;
            }
            return -1;
        }

        private boolean accept(int kind) {
            if (token[at] != kind) {
                return false;
            }
            at++;
            return true;
        }

        /** The name that stands here, or 0. */
        private int name() {
            if (token[at] != T_NAME) {
                return 0;
            }
            at++;
            return (int) value[at - 1];
        }

        private boolean table() {
            int name = name();
            st.addTable(name, 0);
            return name != 0;
        }

        private boolean other(int word) {
            if (word >= T_END) {
                return false;
            }
            at++;
            switch (word) {
                case W_CREATE:
                    return create();
                case W_DROP:
                    st.become(DROP);
                    return accept(W_TABLE) && table();
                case W_VACUUM:
                    st.become(VACUUM);
                    return table();
                case W_CHECKPOINT:
                    st.become(CHECKPOINT);
                    return true;
                case W_LOCK:
                    st.become(LOCK);
                    return table() && lockMode();
                default:
                    return transaction(word);
            }
        }

        private boolean transaction(int word) {
            switch (word) {
                case W_BEGIN:
                    st.become(BEGIN);
                    return isolation();
                case W_COMMIT:
                    st.become(COMMIT);
                    return true;
                case W_ROLLBACK:
                    st.become(ROLLBACK);
                    if (!accept(W_TO)) {
                        return true;
                    }
                    st.become(ROLLBACK_TO);
                    break;
                case W_SAVEPOINT:
                    st.become(SAVEPOINT);
                    break;
                case W_RELEASE:
                    st.become(RELEASE);
                    break;
                default:
                    return false;
            }
            st.name = name();
            return st.name != 0;
        }

        private boolean isolation() {
            st.mode = READ_COMMITTED;
            if (accept(W_READ)) {
                return accept(W_COMMITTED);
            }
            if (accept(W_REPEATABLE)) {
                st.mode = REPEATABLE_READ;
                return accept(W_READ);
            }
            if (accept(W_SERIALIZABLE)) {
                st.mode = SERIALIZABLE;
            }
            return true;
        }

        private boolean lockMode() {
            if (accept(W_ACCESS)) {
                st.mode = token[at] == W_SHARE ? 1 : 8;
                return accept(W_SHARE) || accept(W_EXCLUSIVE);
            }
            if (accept(W_ROW)) {
                st.mode = token[at] == W_SHARE ? 2 : 3;
                return accept(W_SHARE) || accept(W_EXCLUSIVE);
            }
            if (accept(W_EXCLUSIVE)) {
                st.mode = 7;
                return true;
            }
            if (!accept(W_SHARE)) {
                return false;
            }
            st.mode = token[at] == W_UPDATE ? 4 : token[at] == W_ROW ? 6 : 5;
            return st.mode == 5 || (accept(W_UPDATE) || accept(W_ROW)) && accept(W_EXCLUSIVE);
        }

        private boolean create() {
            if (accept(W_TABLE)) {
                st.become(CREATE_TABLE);
                st.name = name();
                return st.name != 0 && accept(T_OPEN) && columns() && accept(T_CLOSE);
            }
            st.become(CREATE_INDEX);
            int bits = accept(W_UNIQUE) ? Statement.UNIQUE_BIT : 0;
            if (!accept(W_INDEX) || !accept(W_ON) || !table() || !accept(T_OPEN)) {
                return false;
            }
            int column = name();
            st.addColumn(column, bits);
            return column != 0 && accept(T_CLOSE);
        }

        private boolean columns() {
            boolean more = true;
            for (int i = 0; i <= TOKENS && more; i++) {
                int name = name();
                if (name == 0 || token[at] < W_INT || token[at] > W_BOOL) {
                    return false;
                }
                int kind = token[at] - W_INT + INT;
                at++;
                if (accept(W_NOT)) {
                    kind |= Statement.NOT_NULL_BIT;
                    if (!accept(W_NULL)) {
                        return false;
                    }
                }
                kind |= accept(W_UNIQUE) ? Statement.UNIQUE_BIT : 0;
                st.addColumn(name, kind);
                more = accept(T_COMMA);
            }
            return true;
        }

        private boolean execute() {
            at++;
            st.become(EXECUTE);
            st.name = name();
            if (st.name == 0) {
                return false;
            }
            return !accept(T_OPEN) || expressions() && accept(T_CLOSE);
        }

        private boolean insertInto() {
            at++;
            return accept(W_INTO) && table();
        }

        private boolean rows() {
            boolean more = true;
            for (int i = 0; i <= TOKENS && more; i++) {
                if (!accept(T_OPEN) || !expressions() || !accept(T_CLOSE)) {
                    return false;
                }
                if (st.rows < NODES) {
                    st.rowEnd[st.rows] = code.exprs;
                    st.rows++;
                }
                more = accept(T_COMMA);
            }
            return true;
        }

        private boolean expressions() {
            boolean more = true;
            for (int i = 0; i <= TOKENS && more; i++) {
                int start = code.size;
                if (!expression(B_OR, 0)) {
                    return false;
                }
                code.addExpression(start);
                if (inItems && i >= ITEMS) {
                    code.tooMany = true;
                }
                more = accept(T_COMMA);
            }
            return true;
        }

        private boolean settings() {
            at++;
            boolean more = table() && accept(W_SET);
            if (!more) {
                return false;
            }
            for (int i = 0; i <= TOKENS && more; i++) {
                int name = name();
                if (name == 0 || !accept(T_EQ)) {
                    return false;
                }
                st.addColumn(name, 0);
                int start = code.size;
                if (!expression(B_OR, 0)) {
                    return false;
                }
                code.addExpression(start);
                more = accept(T_COMMA);
            }
            return where();
        }

        private boolean where() {
            code.whereFrom = code.size;
            boolean good = !accept(W_WHERE) || expression(B_OR, 0);
            code.whereTo = code.size;
            return good;
        }

        private boolean query() {
            if (!accept(W_SELECT)) {
                return false;
            }
            st.distinct = accept(W_DISTINCT);
            inItems = true;
            boolean good = accept(T_STAR) || expressions();
            inItems = false;
            return good && accept(W_FROM) && from() && where() && groups() && orders() && ending();
        }

        private boolean from() {
            boolean more = true;
            for (int i = 0; i <= TOKENS && more; i++) {
                int name = name();
                if (name == 0) {
                    return false;
                }
                st.addTable(name, name());
                more = accept(T_COMMA);
            }
            return true;
        }

        private boolean groups() {
            if (!accept(W_GROUP)) {
                return true;
            }
            boolean more = accept(W_BY);
            boolean good = more;
            for (int i = 0; i <= TOKENS && more; i++) {
                int start = code.size;
                if (!place()) {
                    return false;
                }
                if (st.groups < CLAUSES) {
                    st.group[st.groups] = start;
                    st.groups++;
                } else {
                    code.tooMany = true;
                }
                more = accept(T_COMMA);
            }
            return good;
        }

        private boolean orders() {
            if (!accept(W_ORDER)) {
                return true;
            }
            boolean more = accept(W_BY);
            boolean good = more;
            for (int i = 0; i <= TOKENS && more; i++) {
                if (!accept(T_NUMBER)) {
                    return false;
                }
                // What is beyond all items stays beyond them.
                int number = (int) Math.min(value[at - 1], TOKENS);
                number = accept(W_DESC) ? -number : number;
                if (st.orders < CLAUSES) {
                    st.order[st.orders] = number;
                    st.orders++;
                } else {
                    code.tooMany = true;
                }
                more = accept(T_COMMA);
            }
            return good;
        }

        private boolean ending() {
            if (accept(W_LIMIT)) {
                if (!accept(T_NUMBER)) {
                    return false;
                }
                st.limit = value[at - 1];
            }
            if (accept(W_FOR)) {
                st.mode = token[at] == W_UPDATE ? FOR_UPDATE : FOR_SHARE;
                return accept(W_UPDATE) || accept(W_SHARE);
            }
            return true;
        }

        /** E of operators that bind as much as min or more; its nodes come behind those that are there. */
        private boolean expression(int min, int depth) {
            if (depth > DEPTH) {
                return false;
            }
            int start = code.size;
            int most = operand(min, depth);
            for (int i = 0; i <= TOKENS && most > 0; i++) {
                int kind = token[at];
                int level = binding(kind);
                if (level < min || level > most) {
                    return true;
                }
                if (level == B_COMPARE) {
                    if (!comparison(start, depth)) {
                        return false;
                    }
                    most = B_NOT;
                    continue;
                }
                at++;
                if (!expression(level + 1, depth)) {
                    return false;
                }
                code.add(kind == W_OR ? N_OR : kind == W_AND ? N_AND : kind - T_EQ + N_EQ, start);
                most = level;
            }
            return false;
        }

        private static int binding(int kind) {
            switch (kind) {
                case W_OR: return B_OR;
                case W_AND: return B_AND;
                case W_IS:
                case W_NOT:
                case W_BETWEEN:
                case W_IN:
                case T_EQ:
                case T_NE:
                case T_LT:
                case T_LE:
                case T_GT:
                case T_GE: return B_COMPARE;
                case T_JOIN: return B_JOIN;
                case T_PLUS:
                case T_MINUS: return B_SUM;
                case T_STAR:
                case T_DIVIDE:
                case T_REST: return B_PRODUCT;
                default: return 0;
            }
        }

        /** What stands before a comparison or operator: how much what follows may bind at most, 0 for a fault. */
        private int operand(int min, int depth) {
            int start = code.size;
            if (accept(W_NOT)) {
                if (min > B_NOT || !expression(B_NOT, depth + 1)) {
                    return 0;
                }
                code.add(N_NOT, start);
                return B_NOT;
            }
            if (accept(T_MINUS)) {
                if (!expression(B_MINUS, depth + 1)) {
                    return 0;
                }
                code.add(N_NEGATE, start);
                return B_MINUS;
            }
            if (accept(T_OPEN)) {
                return expression(B_OR, depth + 1) && accept(T_CLOSE) ? B_MINUS : 0;
            }
            if (token[at] >= W_COUNT && token[at] <= W_MAX) {
                return inItems && aggregate(depth) ? B_MINUS : 0;
            }
            return (token[at] == T_NAME ? place() : constant()) ? B_MINUS : 0;
        }

        private boolean aggregate(int depth) {
            int start = code.size;
            int word = token[at];
            at++;
            if (!accept(T_OPEN)) {
                return false;
            }
            if (word == W_COUNT && accept(T_STAR)) {
                code.add(N_COUNT_ALL, start);
            } else {
                if (!expression(B_OR, depth + 1)) {
                    return false;
                }
                code.add(word - W_COUNT + N_COUNT, start);
            }
            code.aggregates = true;
            return accept(T_CLOSE);
        }

        private boolean place() {
            int name = name();
            if (name == 0) {
                return false;
            }
            int table = 0;
            if (accept(T_DOT)) {
                table = name;
                name = name();
            }
            int n = code.add(N_PLACE, code.size);
            code.left[n] = table;
            code.right[n] = name;
            return name != 0;
        }

        private boolean constant() {
            int kind = token[at];
            int what = kind == T_NUMBER ? N_INT : kind == T_TEXT ? N_TEXT : kind == T_PARAMETER ? N_PARAMETER
                : kind == W_TRUE || kind == W_FALSE ? N_BOOL : kind == W_NULL ? N_NULL : 0;
            if (what == 0) {
                return false;
            }
            int n = code.add(what, code.size);
            long[] cells = code.constant;
            Machine.setInt(cells, n * CELL, what == N_INT ? value[at] : kind == W_TRUE ? 1 : 0);
            if (what == N_NULL) {
                Machine.setNull(cells, n * CELL);
            } else if (what == N_TEXT) {
                packText(cells, n * CELL, starts[at] + 1);
            } else if (what == N_PARAMETER) {
                code.left[n] = (int) value[at];
                code.highest = Math.max(code.highest, (int) value[at]);
            }
            at++;
            return true;
        }

        private void packText(long[] cells, int cell, int from) {
            int i = from;
            for (int k = 0; k < TEXT_BYTES && i < length; k++) {
                if (text[i] == '\'') {
                    i++;
                    if (i >= length || text[i] != '\'') {
                        return;
                    }
                }
                cells[cell + k / 8] |= (long) text[i] << (56 - k % 8 * 8);
                i++;
            }
        }

        /** A comparison whose left side has its nodes from start on. */
        private boolean comparison(int start, int depth) {
            int behind = code.size;
            boolean not = accept(W_NOT);
            boolean good;
            if (accept(W_BETWEEN)) {
                good = between(start, behind, depth);
            } else if (accept(W_IN)) {
                good = accept(T_OPEN) && among(start, behind, depth) && accept(T_CLOSE);
            } else if (not) {
                return false;
            } else if (accept(W_IS)) {
                code.add(accept(W_NOT) ? N_IS_NOT_NULL : N_IS_NULL, start);
                return accept(W_NULL);
            } else {
                int what = token[at] - T_EQ + N_EQ;
                at++;
                good = expression(B_JOIN, depth);
                code.add(what, start);
            }
            if (not) {
                code.add(N_NOT, start);
            }
            return good;
        }

        private boolean between(int start, int behind, int depth) {
            if (!expression(B_JOIN, depth)) {
                return false;
            }
            code.add(N_GE, start);
            int again = code.size;
            code.addCopy(start, behind);
            if (!accept(W_AND) || !expression(B_JOIN, depth)) {
                return false;
            }
            code.add(N_LE, again);
            code.add(N_AND, start);
            return true;
        }

        private boolean among(int start, int behind, int depth) {
            boolean more = true;
            for (int i = 0; i <= TOKENS && more; i++) {
                int again = start;
                if (i > 0) {
                    again = code.size;
                    code.addCopy(start, behind);
                }
                if (!expression(B_OR, depth + 1)) {
                    return false;
                }
                code.add(N_EQ, again);
                if (i > 0) {
                    code.add(N_OR, start);
                }
                more = accept(T_COMMA);
            }
            return true;
        }
    }

    /** Reads messages: their meaning, gone over four times. */
    private static final class Checker {
        // A parameter that has no type yet, by its number: where it comes first, and where it comes again.
        private static final int FIRST_TIME = 10;
        private static final int AGAIN = 20;
        final Store store;
        final int[] stack = new int[NODES + ITEMS + 1];
        final boolean[] met = new boolean[10];
        Statement st;
        Code code;
        // While parameters get their types nothing is an error, and names stay names.
        boolean asking;
        // Where the latest place was found: its table among the statement's, or -1, and its column.
        int foundTable;
        int foundColumn;

        Checker(Store store) {
            this.store = store;
        }

        int check(Statement statement, boolean preparing) {
            st = statement;
            code = statement.code;
            Arrays.fill(code.parameter, 0);
            int r = tables();
            int asked = code.highest > 0 ? met.length : 0;
            for (int round = 0; round <= asked && r == ON; round++) {
                beginRound(round < asked);
                switch (st.body) {
                    case CREATE_INDEX: r = findSet(0); break;
                    case INSERT: r = st.rows > 0 ? rowTypes() : queryTypes(); break;
                    case QUERY: r = queryTypes(); break;
                    case UPDATE: r = setTypes(); break;
                    case DELETE: r = whereType(); break;
                    case EXECUTE: r = listTypes(); break;
                    default: break;
                }
            }
            if (r == ON) {
                r = shape(preparing);
            }
            return r == ON && st.isQuery() ? grouping() : r;
        }

        /** What a parameter's first place needs may be another one's type: each time round one more of them is known. */
        private void beginRound(boolean ask) {
            asking = ask;
            for (int k = 1; k <= code.highest && k < met.length; k++) {
                if (ask) {
                    met[k] = false;
                } else if (met[k] && code.parameter[k] == 0) {
                    code.parameter[k] = TEXT;
                }
            }
        }

        private int tables() {
            for (int i = 0; i < st.tables; i++) {
                int slot = store.findTable(st.slot[i]);
                if (slot < 0) {
                    return NO_TABLE;
                }
                st.slot[i] = slot;
                st.serial[i] = store.tables[slot].serial;
                for (int j = st.first(); j < i; j++) {
                    if (st.alias[j] == st.alias[i]) {
                        return SAME_NAME;
                    }
                }
            }
            return ON;
        }

        private int findSet(int i) {
            foundColumn = store.tables[st.slot[0]].findColumn(st.column[i]);
            if (asking) {
                return ON;
            }
            if (foundColumn < 0) {
                return NO_COLUMN;
            }
            st.column[i] = foundColumn;
            return ON;
        }

        private int rowTypes() {
            int e = 0;
            for (int row = 0; row < st.rows; row++) {
                for (int j = 0; e < st.rowEnd[row]; j++) {
                    int r = nodes(code.from[e], code.to[e]);
                    r = r == ON ? fitColumn(e, j) : r;
                    if (r != ON) {
                        return r;
                    }
                    e++;
                }
            }
            return ON;
        }

        private int listTypes() {
            for (int e = 0; e < code.exprs; e++) {
                int r = nodes(code.from[e], code.to[e]);
                if (r != ON) {
                    return r;
                }
                code.type[e] = alone(stack[0]);
            }
            return ON;
        }

        private int queryTypes() {
            if (!asking && code.exprs == 0 && st.body == INSERT && !starFits()) {
                return WRONG_TYPE;
            }
            for (int e = 0; e < code.exprs; e++) {
                int r = nodes(code.from[e], code.to[e]);
                if (r == ON) {
                    r = fitColumn(e, e);
                }
                if (r != ON) {
                    return r;
                }
            }
            int r = whereType();
            for (int g = 0; g < st.groups && r == ON; g++) {
                r = findPlace(st.group[g]);
            }
            return r;
        }

        private boolean starFits() {
            Table into = store.tables[st.slot[0]];
            int j = 0;
            for (int i = st.first(); i < st.tables; i++) {
                Table table = store.tables[st.slot[i]];
                for (int c = 0; c < table.columns; c++) {
                    if (j < into.columns && into.columnType[j] != table.columnType[c]) {
                        return false;
                    }
                    j++;
                }
            }
            return true;
        }

        private int setTypes() {
            for (int i = 0; i < st.columns; i++) {
                int r = findSet(i);
                int column = foundColumn;
                if (r == ON) {
                    r = nodes(code.from[i], code.to[i]);
                }
                if (r == ON && column >= 0) {
                    r = fitColumn(i, column);
                }
                if (r != ON) {
                    return r;
                }
            }
            return whereType();
        }

        private int whereType() {
            if (code.whereFrom == code.whereTo) {
                return ON;
            }
            int r = nodes(code.whereFrom, code.whereTo);
            return r != ON ? r : needs(0, BOOL) || asking ? ON : WRONG_TYPE;
        }

        /** An expression is a value of the j-th column of what is written, or an item that may have any type. */
        private int fitColumn(int e, int j) {
            Table into = store.tables[st.slot[0]];
            if (st.body == QUERY || j >= into.columns) {
                stack[0] = alone(stack[0]);
            } else if (!needs(0, into.columnType[j]) && !asking) {
                return WRONG_TYPE;
            }
            code.type[e] = stack[0];
            return ON;
        }

        /** Goes over nodes; the type of all of them is the lowest on the stack then. */
        private int nodes(int from, int to) {
            int top = 0;
            for (int i = from; i < to; i++) {
                int op = code.op[i];
                boolean fits = true;
                if (op <= N_COUNT_ALL) {
                    int r = op == N_PLACE ? findPlace(i) : ON;
                    if (r != ON) {
                        return r;
                    }
                    stack[top] = leafType(i, op);
                    top++;
                } else if (op <= N_MAX) {
                    fits = fitsOne(op, top - 1);
                } else {
                    top--;
                    fits = fitsTwo(op, top - 1);
                }
                if (!fits && !asking) {
                    return WRONG_TYPE;
                }
            }
            return ON;
        }

        private int leafType(int i, int op) {
            switch (op) {
                case N_INT:
                case N_COUNT_ALL:
                    return INT;
                case N_TEXT:
                    return TEXT;
                case N_BOOL:
                    return BOOL;
                case N_PLACE:
                    return foundTable < 0 ? 0 : store.tables[st.slot[foundTable]].columnType[foundColumn];
                case N_PARAMETER:
                    int k = code.left[i];
                    int unknown = met[k] ? AGAIN + k : FIRST_TIME + k;
                    met[k] = true;
                    return code.parameter[k] != 0 ? code.parameter[k] : unknown;
                default:
                    return 0;
            }
        }

        private boolean needs(int at, int needed) {
            int type = stack[at];
            stack[at] = needed;
            if (type > FIRST_TIME && type < AGAIN) {
                code.parameter[type - FIRST_TIME] = needed;
            }
            return type > FIRST_TIME || type == 0 || type == needed;
        }

        /** Where any type would do. */
        private int alone(int type) {
            if (type > FIRST_TIME && type < AGAIN) {
                code.parameter[type - FIRST_TIME] = TEXT;
                return TEXT;
            }
            return type;
        }

        /** A parameter takes the type of the other side, if that has one or is of no type. */
        private void take(int type, int other) {
            if (type > FIRST_TIME && type < AGAIN && other < FIRST_TIME) {
                code.parameter[type - FIRST_TIME] = other == 0 ? TEXT : other;
            }
        }

        private boolean fitsOne(int op, int at) {
            switch (op) {
                case N_NEGATE:
                case N_SUM:
                    return needs(at, INT);
                case N_NOT:
                    return needs(at, BOOL);
                case N_MIN:
                case N_MAX:
                    stack[at] = alone(stack[at]);
                    return stack[at] != BOOL;
                default:
                    alone(stack[at]);
                    stack[at] = op == N_COUNT ? INT : BOOL;
                    return true;
            }
        }

        private boolean fitsTwo(int op, int at) {
            if (op < N_EQ || op > N_GE) {
                int needed = op >= N_PLUS ? INT : op == N_JOIN ? TEXT : BOOL;
                boolean left = needs(at, needed);
                return needs(at + 1, needed) && left;
            }
            int a = stack[at];
            int b = stack[at + 1];
            take(a, b);
            take(b, a);
            stack[at] = BOOL;
            return a == 0 || b == 0 || a == b;
        }

        /** Names become places: the table's among the query's, and the column's in it. */
        private int findPlace(int i) {
            foundTable = -1;
            boolean named = code.left[i] == 0;
            boolean several = false;
            for (int t = st.first(); t < st.tables; t++) {
                if (code.left[i] != 0 && code.left[i] != st.alias[t]) {
                    continue;
                }
                named = true;
                int c = store.tables[st.slot[t]].findColumn(code.right[i]);
                several |= c >= 0 && foundTable >= 0;
                if (c >= 0) {
                    foundTable = t;
                    foundColumn = c;
                }
            }
            if (asking) {
                return ON;
            }
            if (several || foundTable < 0) {
                return several ? SEVERAL_COLUMNS : named ? NO_COLUMN : NO_TABLE;
            }
            code.left[i] = foundTable - st.first();
            code.right[i] = foundColumn;
            return ON;
        }

        private int shape(boolean preparing) {
            if (st.isQuery() && code.exprs == 0) {
                int r = expandStar();
                if (r != ON) {
                    return r;
                }
            }
            if (!preparing && code.highest > 0 || st.namesTwice()) {
                return SYNTAX;
            }
            for (int i = 0; i < st.orders; i++) {
                int number = Math.abs(st.order[i]);
                if (number < 1 || number > code.exprs) {
                    return SYNTAX;
                }
            }
            if (st.body != INSERT) {
                return ON;
            }
            int columns = store.tables[st.slot[0]].columns;
            if (st.rows == 0) {
                return code.exprs == columns ? ON : SYNTAX;
            }
            for (int row = 0; row < st.rows; row++) {
                if (st.rowEnd[row] != (row + 1) * columns) {
                    return SYNTAX;
                }
            }
            return ON;
        }

        private int expandStar() {
            int n = 0;
            for (int i = st.first(); i < st.tables; i++) {
                n += store.tables[st.slot[i]].columns;
            }
            if (n > ITEMS) {
                return TOO_MANY;
            }
            if (code.size + n > NODES) {
                return TOO_LARGE;
            }
            for (int i = st.first(); i < st.tables; i++) {
                Table table = store.tables[st.slot[i]];
                for (int c = 0; c < table.columns; c++) {
                    code.addItem(i - st.first(), c, table.columnType[c]);
                }
            }
            return ON;
        }

        private int grouping() {
            boolean grouped = code.aggregates || st.groups > 0;
            for (int e = 0; e < code.exprs; e++) {
                if (grouped && !groupedItem(code.from[e], code.to[e])) {
                    return NOT_GROUPED;
                }
            }
            boolean several = st.tables - st.first() > 1 || st.distinct || grouped || st.body == INSERT;
            return st.mode != 0 && several ? NO_FOR : ON;
        }

        /** From the right, so that what an aggregate holds is passed over behind it. */
        private boolean groupedItem(int from, int to) {
            for (int i = to - 1; i >= from; i--) {
                if (code.isAggregate(i)) {
                    int start = code.begin[i];
                    code.skip[start] = i + 1;
                    for (int k = start; k < i; k++) {
                        if (code.isAggregate(k)) {
                            return false;
                        }
                    }
                    i = start;
                } else if (code.op[i] == N_PLACE && !isGroup(i)) {
                    return false;
                }
            }
            return true;
        }

        private boolean isGroup(int i) {
            for (int g = 0; g < st.groups; g++) {
                int place = st.group[g];
                if (code.left[i] == code.left[place] && code.right[i] == code.right[place]) {
                    return true;
                }
            }
            return false;
        }
    }

    /** A table, or a place for one. */
    private static final class Table {
        final int[] columnName = new int[ITEMS];
        final int[] columnType = new int[ITEMS];
        final boolean[] notNull = new boolean[ITEMS];
        // Its versions, in order by their values.
        final int[] order = new int[VERSIONS];
        int name;
        // 0 if there is none; a table made later has another one.
        int serial;
        int columns;
        int versions;

        int findColumn(int columnNamed) {
            for (int c = 0; c < columns; c++) {
                if (columnName[c] == columnNamed) {
                    return c;
                }
            }
            return -1;
        }
    }

    /** Tables, indexes and versions. */
    private static final class Store {
        final Table[] tables = new Table[TABLES];
        final int[] indexTable = new int[INDEXES];
        final int[] indexColumn = new int[INDEXES];
        final boolean[] indexUnique = new boolean[INDEXES];
        final long[] values = new long[VERSIONS * ROW];
        final int[] number = new int[VERSIONS];
        final int[] maker = new int[VERSIONS];
        final int[] makerCommand = new int[VERSIONS];
        final int[] end = new int[VERSIONS];
        final int[] endCommand = new int[VERSIONS];
        // What came in its place, or -1.
        final int[] next = new int[VERSIONS];
        // By version, session and kind the least running number that locks it. The greater ones of its
        // transaction end with it or before it, as numbers of lower levels are less than those of higher ones.
        final int[] locks = new int[VERSIONS * SESSIONS * 2];
        final int[] free = new int[VERSIONS];
        int indexes;
        int serials;
        int versions;
        int made;

        Store() {
            for (int t = 0; t < TABLES; t++) {
                tables[t] = new Table();
            }
            for (int i = 0; i < VERSIONS; i++) {
                free[i] = VERSIONS - 1 - i;
            }
        }

        int findTable(int name) {
            for (int t = 0; t < TABLES; t++) {
                if (tables[t].serial != 0 && tables[t].name == name) {
                    return t;
                }
            }
            return -1;
        }

        int tablesThere() {
            int n = 0;
            for (int t = 0; t < TABLES; t++) {
                n += tables[t].serial != 0 ? 1 : 0;
            }
            return n;
        }

        int refusesTable(Statement st) {
            if (findTable(st.name) >= 0) {
                return TABLE_THERE;
            }
            int more = 0;
            for (int c = 0; c < st.columns; c++) {
                more += (st.columnKind[c] & Statement.UNIQUE_BIT) != 0 ? 1 : 0;
            }
            return tablesThere() >= TABLES || indexes + more > INDEXES ? FULL : ON;
        }

        void addTable(Statement st) {
            int slot = 0;
            for (; slot < TABLES - 1 && tables[slot].serial != 0; slot++) {
            }
            Table table = tables[slot];
            serials++;
            table.serial = serials;
            table.name = st.name;
            table.columns = st.columns;
            table.versions = 0;
            for (int c = 0; c < st.columns; c++) {
                table.columnName[c] = st.column[c];
                table.columnType[c] = st.columnKind[c] & 3;
                table.notNull[c] = (st.columnKind[c] & Statement.NOT_NULL_BIT) != 0;
                if ((st.columnKind[c] & Statement.UNIQUE_BIT) != 0) {
                    addIndex(slot, c, true);
                }
            }
        }

        int refusesIndex(Statement st, Ledger ledger) {
            if (indexes >= INDEXES) {
                return FULL;
            }
            Table table = tables[st.slot[0]];
            int offset = st.column[0] * CELL;
            for (int i = 0; st.unique() && i < table.versions; i++) {
                int v = table.order[i] * ROW + offset;
                if (!isLasting(table.order[i], ledger) || Machine.isNull(values, v)) {
                    continue;
                }
                for (int j = 0; j < i; j++) {
                    if (isLasting(table.order[j], ledger)
                        && Machine.compare(values, table.order[j] * ROW + offset, values, v) == 0) {
                        return NOT_UNIQUE;
                    }
                }
            }
            return ON;
        }

        private boolean isLasting(int v, Ledger ledger) {
            return ledger.status[maker[v]] == COMMITTED && (end[v] == 0 || ledger.status[end[v]] == ABORTED);
        }

        void addIndex(int slot, int column, boolean unique) {
            if (indexes < INDEXES) {
                indexTable[indexes] = slot;
                indexColumn[indexes] = column;
                indexUnique[indexes] = unique;
                indexes++;
            }
        }

        void dropTable(int slot) {
            Table table = tables[slot];
            for (int i = 0; i < table.versions; i++) {
                release(table.order[i]);
            }
            table.versions = 0;
            table.serial = 0;
            int kept = 0;
            for (int i = 0; i < indexes; i++) {
                if (indexTable[i] != slot) {
                    indexTable[kept] = indexTable[i];
                    indexColumn[kept] = indexColumn[i];
                    indexUnique[kept] = indexUnique[i];
                    kept++;
                }
            }
            indexes = kept;
        }

        private void release(int v) {
            versions--;
            free[VERSIONS - 1 - versions] = v;
        }

        /** Makes a version; there is a place for it. */
        int make(int slot, long[] row, int by, int command) {
            int v = free[VERSIONS - 1 - versions];
            versions++;
            made++;
            Table table = tables[slot];
            System.arraycopy(row, 0, values, v * ROW, table.columns * CELL);
            number[v] = made;
            maker[v] = by;
            makerCommand[v] = command;
            end[v] = 0;
            endCommand[v] = 0;
            next[v] = -1;
            for (int k = 0; k < SESSIONS * 2; k++) {
                locks[v * SESSIONS * 2 + k] = 0;
            }
            int low = 0;
            int high = table.versions;
            for (int i = 0; i < 32 && low < high; i++) {
                int middle = (low + high) / 2;
                if (isBehind(table, table.order[middle], v)) {
                    high = middle;
                } else {
                    low = middle + 1;
                }
            }
            System.arraycopy(table.order, low, table.order, low + 1, table.versions - low);
            table.order[low] = v;
            table.versions++;
            return v;
        }

        /** Whether a version's values are behind those of the newest one. */
        private boolean isBehind(Table table, int v, int newest) {
            for (int c = 0; c < table.columns; c++) {
                int sign = Machine.compare(values, v * ROW + c * CELL, values, newest * ROW + c * CELL);
                if (sign != 0) {
                    return sign > 0;
                }
            }
            return false;
        }

        /** Removes the dead versions of a table: those that no snapshot from oldest on needs. */
        int sweep(int slot, Ledger ledger, int oldest) {
            Table table = tables[slot];
            int kept = 0;
            for (int i = 0; i < table.versions; i++) {
                int v = table.order[i];
                boolean over = end[v] > 0 && ledger.status[end[v]] == COMMITTED && ledger.committedAt[end[v]] < oldest;
                if (over || ledger.status[maker[v]] == ABORTED) {
                    release(v);
                } else {
                    table.order[kept] = v;
                    kept++;
                }
            }
            int gone = table.versions - kept;
            table.versions = kept;
            return gone;
        }

        /** Numbers are given anew behind a fall of the power, so that nothing may speak of the old ones. */
        void forgetEnds() {
            Arrays.fill(end, 0);
            Arrays.fill(next, -1);
            Arrays.fill(locks, 0);
        }

        void lockRow(int v, int session, int kind, int by, Ledger ledger) {
            int i = (v * SESSIONS + session) * 2 + kind - 1;
            if (ledger.status[locks[i]] != RUNNING || by < locks[i]) {
                locks[i] = by;
            }
        }

        /** The least number running elsewhere that locks a version against FOR UPDATE or FOR SHARE, or 0. */
        int leastLock(int v, int session, boolean forUpdate, Ledger ledger) {
            int least = 0;
            for (int k = 0; k < SESSIONS * 2; k++) {
                int by = locks[v * SESSIONS * 2 + k];
                boolean against = forUpdate || k % 2 + 1 == FOR_UPDATE;
                if (k / 2 != session && against && ledger.status[by] == RUNNING && (least == 0 || by < least)) {
                    least = by;
                }
            }
            return least;
        }
    }

    /** Transactions' numbers, the counts that last, and the power. */
    private static final class Ledger {
        // 0 is no number, and has no status.
        final byte[] status = new byte[NUMBERS + 1];
        final byte[] owner = new byte[NUMBERS + 1];
        final byte[] level = new byte[NUMBERS + 1];
        final byte[] guard = new byte[NUMBERS + 1];
        final int[] committedAt = new int[NUMBERS + 1];
        int given;
        int commits;
        // Snapshots and commits, each at a time of its own.
        int clock;
        int charge = -1;
        int savedMade;
        int savedGiven;
        int savedCommits;

        boolean powerGoes() {
            if (charge < 0) {
                return false;
            }
            charge--;
            return charge < 0;
        }

        void save(int made) {
            savedMade = made;
            savedGiven = given;
            savedCommits = commits;
        }

        void abortAll() {
            for (int n = 1; n <= given; n++) {
                if (status[n] == RUNNING) {
                    status[n] = ABORTED;
                }
            }
        }

        void restore() {
            given = savedGiven;
            commits = savedCommits;
        }

        /** Gives a number to the level on top, and first to those below it. */
        boolean give(Session x) {
            for (int l = 0; l <= x.top; l++) {
                if (x.number[l] > 0) {
                    continue;
                }
                if (given >= NUMBERS) {
                    return false;
                }
                given++;
                x.number[l] = given;
                status[given] = RUNNING;
                owner[given] = (byte) x.id;
                level[given] = (byte) l;
                guard[given] = (byte) x.guard;
            }
            return true;
        }

        void settle(int session, int fromLevel, int as) {
            for (int n = 1; n <= given; n++) {
                if (status[n] == RUNNING && owner[n] == session && level[n] >= fromLevel) {
                    status[n] = (byte) as;
                    committedAt[n] = clock;
                }
            }
        }

        void lower(int session, int fromLevel) {
            for (int n = 1; n <= given; n++) {
                if (status[n] == RUNNING && owner[n] == session && level[n] >= fromLevel) {
                    level[n] = (byte) (fromLevel - 1);
                }
            }
        }

        boolean sees(Session x, int n, int command) {
            if (status[n] == RUNNING) {
                return owner[n] == x.id && command < x.command;
            }
            return status[n] == COMMITTED && committedAt[n] < x.snapshot;
        }
    }

    /** The serializable transactions that are kept, what they read, and the arrows between them. */
    private static final class Serial {
        final Store store;
        final Ledger ledger;
        final boolean[] used = new boolean[KEPT];
        final boolean[] doomed = new boolean[KEPT];
        final int[] began = new int[KEPT];
        // 0 as long as it runs.
        final int[] committed = new int[KEPT];
        // Arrows from each, as bits by those that they go to; and the least commit of those not kept any more, or 0.
        final long[] arrows = new long[KEPT];
        final int[] goneCommit = new int[KEPT];
        // By transaction and table: whether it is read whole, and otherwise how many ranges of it.
        final boolean[] whole = new boolean[KEPT * TABLES];
        final int[] ranges = new int[KEPT * TABLES];
        final int[] rangeColumn = new int[KEPT * TABLES * RANGES];
        final int[] rangeFlags = new int[KEPT * TABLES * RANGES];
        // A lower and an upper bound each.
        final long[] bounds = new long[KEPT * TABLES * RANGES * 2 * CELL];
        // To whom arrows come with the reads of the action that goes on.
        long coming;

        Serial(Store store, Ledger ledger) {
            this.store = store;
            this.ledger = ledger;
        }

        void reset() {
            Arrays.fill(arrows, 0);
            coming = 0;
            for (int a = 0; a < KEPT; a++) {
                used[a] = false;
            }
        }

        /** A place for a transaction whose snapshot is taken now, or -1. */
        int admit(int time) {
            for (int a = 0; a < KEPT; a++) {
                if (!used[a]) {
                    used[a] = true;
                    doomed[a] = false;
                    began[a] = time;
                    committed[a] = 0;
                    arrows[a] = 0;
                    goneCommit[a] = 0;
                    for (int t = 0; t < TABLES; t++) {
                        forgetOne(a, t);
                    }
                    return a;
                }
            }
            return -1;
        }

        void forget(int table) {
            for (int a = 0; a < KEPT; a++) {
                forgetOne(a, table);
            }
        }

        private void forgetOne(int a, int table) {
            whole[a * TABLES + table] = false;
            ranges[a * TABLES + table] = 0;
        }

        /** Keeps a read; its arrows come, but count only with readFails(). */
        void read(int a, int table, int column, int flags, long[] range, int at) {
            if (flags == R_EMPTY) {
                return;
            }
            keep(a, table, column, flags, range, at);
            Table read = store.tables[table];
            for (int i = 0; i < read.versions; i++) {
                int v = read.order[i];
                if (flags == R_WHOLE || Machine.isInside(store.values, v * ROW + column * CELL, flags, range, at)) {
                    meet(a, store.maker[v]);
                    meet(a, store.end[v]);
                }
            }
        }

        private void keep(int a, int table, int column, int flags, long[] range, int at) {
            int place = a * TABLES + table;
            if (whole[place]) {
                return;
            }
            int n = ranges[place];
            for (int i = 0; i < n && flags != R_WHOLE; i++) {
                int k = place * RANGES + i;
                if (rangeColumn[k] == column && rangeFlags[k] == flags && isSame(k, range, at)) {
                    return;
                }
            }
            if (flags == R_WHOLE || n >= RANGES) {
                whole[place] = true;
                return;
            }
            int k = place * RANGES + n;
            rangeColumn[k] = column;
            rangeFlags[k] = flags;
            System.arraycopy(range, at, bounds, k * 2 * CELL, 2 * CELL);
            ranges[place] = n + 1;
        }

        // A bound that a range has not is all zeros in both.
        private boolean isSame(int k, long[] range, int at) {
            for (int i = 0; i < 2 * CELL; i++) {
                if (bounds[k * 2 * CELL + i] != range[at + i]) {
                    return false;
                }
            }
            return true;
        }

        private void meet(int a, int number) {
            int b = ledger.guard[number];
            boolean anew = ledger.status[number] == RUNNING
                || ledger.status[number] == COMMITTED && ledger.committedAt[number] > began[a];
            if (anew && b >= 0 && b != a) {
                coming |= 1L << b;
            }
        }

        /** The end of an action that read: whether the transaction is doomed by it, or was before. */
        boolean readFails(int a) {
            arrows[a] |= coming;
            for (int b = 0; b < KEPT; b++) {
                if ((coming >> b & 1) == 0) {
                    continue;
                }
                int least = leastCommit(b);
                if (least > 0 && (committed[b] == 0 || committed[b] > least)) {
                    doomed[a] = true;
                }
                if (committed[b] > 0 && isReadSince(a, committed[b])) {
                    doomed[a] = true;
                }
            }
            coming = 0;
            return doomed[a];
        }

        /** Whether an arrow comes to p from one that had not committed before a time. */
        private boolean isReadSince(int p, int time) {
            for (int a = 0; a < KEPT; a++) {
                if (used[a] && (arrows[a] >> p & 1) != 0 && (committed[a] == 0 || committed[a] >= time)) {
                    return true;
                }
            }
            return false;
        }

        /** The first commit of those to whom arrows go from p, or 0. */
        private int leastCommit(int p) {
            int least = goneCommit[p];
            for (int b = 0; b < KEPT; b++) {
                if ((arrows[p] >> b & 1) != 0 && committed[b] > 0 && (least == 0 || committed[b] < least)) {
                    least = committed[b];
                }
            }
            return least;
        }

        /** The end of an action that made or ended a version. */
        boolean wroteFails(int b, int table, int v) {
            int least = leastCommit(b);
            for (int a = 0; a < KEPT; a++) {
                if (!used[a] || a == b || committed[a] > 0 && committed[a] < began[b] || !hasRead(a, table, v)) {
                    continue;
                }
                arrows[a] |= 1L << b;
                if (least > 0 && (committed[a] == 0 || committed[a] >= least)) {
                    doomed[b] = true;
                }
            }
            return doomed[b];
        }

        private boolean hasRead(int a, int table, int v) {
            int place = a * TABLES + table;
            if (whole[place]) {
                return true;
            }
            for (int i = 0; i < ranges[place]; i++) {
                int k = place * RANGES + i;
                int cell = v * ROW + rangeColumn[k] * CELL;
                if (Machine.isInside(store.values, cell, rangeFlags[k], bounds, k * 2 * CELL)) {
                    return true;
                }
            }
            return false;
        }

        void commit(int b, int time) {
            committed[b] = time;
            for (int p = 0; p < KEPT; p++) {
                if (used[p] && committed[p] == 0 && (arrows[p] >> b & 1) != 0 && isReadSince(p, time)) {
                    doomed[p] = true;
                }
            }
            prune();
        }

        /** One that is rolled back goes with all arrows from it and to it. */
        void remove(int b) {
            used[b] = false;
            for (int a = 0; a < KEPT; a++) {
                arrows[a] &= ~(1L << b);
            }
            prune();
        }

        /** Committed ones go when none that was concurrent runs; that arrows went to them is still known. */
        private void prune() {
            int oldest = NEVER;
            for (int a = 0; a < KEPT; a++) {
                if (used[a] && committed[a] == 0) {
                    oldest = Math.min(oldest, began[a]);
                }
            }
            for (int b = 0; b < KEPT; b++) {
                if (!used[b] || committed[b] == 0 || oldest < committed[b]) {
                    continue;
                }
                used[b] = false;
                for (int a = 0; a < KEPT; a++) {
                    if ((arrows[a] >> b & 1) != 0) {
                        arrows[a] &= ~(1L << b);
                        goneCommit[a] = goneCommit[a] == 0 ? committed[b] : Math.min(goneCommit[a], committed[b]);
                    }
                }
            }
        }
    }

    /** Works out expressions on a stack of cells. */
    private static final class Machine {
        final Store store;
        final long[] stack = new long[(NODES + ITEMS + 1) * CELL];
        // What aggregates have come to, by their nodes.
        final long[] totals = new long[(NODES + ITEMS + 1) * CELL];
        // The versions that places speak of, by table.
        final int[] row = new int[JOINED];
        long[] values = new long[9 * CELL];
        boolean grouped;

        Machine(Store store) {
            this.store = store;
        }

        static boolean isNull(long[] a, int i) {
            return a[i + 3] == NULL_MARK;
        }

        static void setNull(long[] a, int i) {
            a[i] = 0;
            a[i + 1] = 0;
            a[i + 2] = 0;
            a[i + 3] = NULL_MARK;
        }

        static void setInt(long[] a, int i, long value) {
            a[i] = value;
            a[i + 1] = 0;
            a[i + 2] = 0;
            a[i + 3] = 0;
        }

        static void copy(long[] a, int i, long[] b, int j) {
            b[j] = a[i];
            b[j + 1] = a[i + 1];
            b[j + 2] = a[i + 2];
            b[j + 3] = a[i + 3];
        }

        /** Cells of one type in order, NULL behind all others; bytes of TEXTs are below 128, so longs tell. */
        static int compare(long[] a, int i, long[] b, int j) {
            boolean nullA = a[i + 3] == NULL_MARK;
            boolean nullB = b[j + 3] == NULL_MARK;
            if (nullA || nullB) {
                return nullA ? nullB ? 0 : 1 : -1;
            }
            for (int k = 0; k < CELL; k++) {
                if (a[i + k] != b[j + k]) {
                    return a[i + k] < b[j + k] ? -1 : 1;
                }
            }
            return 0;
        }

        /** Whether a cell is in a range, whose lower bound stands at the place told and its upper one behind it. */
        static boolean isInside(long[] a, int i, int flags, long[] range, int at) {
            if (flags == R_WHOLE) {
                return true;
            }
            if (flags == R_EMPTY || isNull(a, i)) {
                return false;
            }
            if ((flags & R_LOWER) != 0) {
                int sign = compare(a, i, range, at);
                if (sign < 0 || sign == 0 && (flags & R_LOWER_IN) == 0) {
                    return false;
                }
            }
            if ((flags & R_UPPER) != 0) {
                int sign = compare(a, i, range, at + CELL);
                return sign < 0 || sign == 0 && (flags & R_UPPER_IN) != 0;
            }
            return true;
        }

        static int byteAt(long[] a, int i, int k) {
            return (int) (a[i + k / 8] >> (56 - k % 8 * 8)) & 255;
        }

        static int textLength(long[] a, int i) {
            int n = 0;
            for (; n < TEXT_BYTES && byteAt(a, i, n) != 0; n++) {
            }
            return n;
        }

        boolean isTrue(Code code) {
            if (code.whereFrom == code.whereTo) {
                return true;
            }
            work(code, code.whereFrom, code.whereTo);
            return !isNull(stack, 0) && stack[0] != 0;
        }

        /** Works out nodes; what they come to is the lowest on the stack then. */
        void work(Code code, int from, int to) {
            int top = 0;
            for (int i = from; i < to; i++) {
                if (grouped && code.skip[i] > 0) {
                    i = code.skip[i] - 1;
                    copy(totals, i * CELL, stack, top);
                    top += CELL;
                    continue;
                }
                int op = code.op[i];
                if (op <= N_COUNT_ALL) {
                    leaf(code, i, top);
                    top += CELL;
                } else if (op <= N_MAX) {
                    one(op, top - CELL);
                } else {
                    top -= CELL;
                    two(op, top - CELL);
                }
            }
        }

        private void leaf(Code code, int i, int top) {
            switch (code.op[i]) {
                case N_PLACE:
                    copy(store.values, row[code.left[i]] * ROW + code.right[i] * CELL, stack, top);
                    break;
                case N_PARAMETER:
                    copy(values, (code.left[i] - 1) * CELL, stack, top);
                    break;
                default:
                    copy(code.constant, i * CELL, stack, top);
                    break;
            }
        }

        private void one(int op, int a) {
            boolean none = isNull(stack, a);
            switch (op) {
                case N_IS_NULL:
                    setInt(stack, a, none ? 1 : 0);
                    break;
                case N_IS_NOT_NULL:
                    setInt(stack, a, none ? 0 : 1);
                    break;
                case N_NOT:
                    stack[a] = none ? 0 : 1 - stack[a];
                    break;
                default:
                    stack[a] = -stack[a];
                    break;
            }
        }

        private void two(int op, int a) {
            int b = a + CELL;
            if (op <= N_AND) {
                decide(op == N_AND ? 0 : 1, a, b);
            } else if (isNull(stack, a) || isNull(stack, b) || op >= N_DIVIDE && stack[b] == 0) {
                setNull(stack, a);
            } else if (op == N_JOIN) {
                join(a, b);
            } else if (op >= N_PLUS) {
                stack[a] = reckon(op, stack[a], stack[b]);
            } else {
                int sign = compare(stack, a, stack, b);
                boolean holds = op == N_EQ ? sign == 0 : op == N_NE ? sign != 0 : op == N_LT ? sign < 0
                    : op == N_LE ? sign <= 0 : op == N_GT ? sign > 0 : sign >= 0;
                setInt(stack, a, holds ? 1 : 0);
            }
        }

        /** AND and OR: the value that decides does so beside NULL too. */
        private void decide(long deciding, int a, int b) {
            boolean nullA = stack[a + 3] == NULL_MARK;
            boolean nullB = stack[b + 3] == NULL_MARK;
            boolean decided = !nullA && stack[a] == deciding || !nullB && stack[b] == deciding;
            boolean open = !decided && (nullA || nullB);
            stack[a] = decided ? deciding : open ? 0 : 1 - deciding;
            stack[a + 3] = open ? NULL_MARK : 0;
        }

        private static long reckon(int op, long x, long y) {
            switch (op) {
                case N_PLUS: return x + y;
                case N_MINUS: return x - y;
                case N_TIMES: return x * y;
                case N_DIVIDE: return y == 0 ? 0 : x / y;
                default: return y == 0 ? 0 : x % y;
            }
        }

        /** A TEXT ends where the bytes of its cell are 0. */
        private void join(int a, int b) {
            int n = 0;
            for (int k = 0; k < 2 * TEXT_BYTES && n < TEXT_BYTES; k++) {
                long left = stack[a + n / 8] >> (56 - n % 8 * 8) & 255;
                if (left != 0) {
                    n++;
                    continue;
                }
                for (int m = 0; m < TEXT_BYTES && n < TEXT_BYTES; m++) {
                    long right = stack[b + m / 8] >> (56 - m % 8 * 8) & 255;
                    stack[a + n / 8] |= right << (56 - n % 8 * 8);
                    n++;
                }
            }
        }

        void clearTotals(Code code) {
            for (int i = 0; i < code.size; i++) {
                if (code.op[i] == N_COUNT_ALL || code.op[i] == N_COUNT) {
                    setInt(totals, i * CELL, 0);
                } else {
                    setNull(totals, i * CELL);
                }
            }
        }

        /** Adds the row that is set to all aggregates. */
        void addToTotals(Code code) {
            for (int i = 0; i < code.size; i++) {
                if (code.op[i] == N_COUNT_ALL) {
                    totals[i * CELL]++;
                } else if (code.isAggregate(i)) {
                    work(code, code.begin[i], i);
                    if (!isNull(stack, 0)) {
                        addTo(code.op[i], i * CELL);
                    }
                }
            }
        }

        private void addTo(int op, int total) {
            if (op == N_COUNT) {
                totals[total]++;
            } else if (isNull(totals, total)) {
                copy(stack, 0, totals, total);
            } else if (op == N_SUM) {
                totals[total] += stack[0];
            } else {
                int sign = compare(stack, 0, totals, total);
                if (op == N_MIN ? sign < 0 : sign > 0) {
                    copy(stack, 0, totals, total);
                }
            }
        }
    }

    /** Finds the rows of queries and the targets of what writes. */
    private static final class Finder {
        final Store store;
        final Ledger ledger;
        final Serial serial;
        final Machine machine;
        // By table of the query: the range that its path names.
        final int[] flags = new int[JOINED];
        final int[] column = new int[JOINED];
        final long[] bounds = new long[JOINED * 2 * CELL];
        // The conditions that WHERE joins by AND, from the left.
        final int[] conditions = new int[NODES];
        int conditionCount;
        final int[] candidates = new int[JOINED * VERSIONS];
        final int[] candidateCount = new int[JOINED];
        // The versions of each row, table by table.
        final int[] combos = new int[ROWS * JOINED];
        int rows;
        // By group its first and last row, by row the next one of its group.
        final int[] groupFirst = new int[ROWS];
        final int[] groupLast = new int[ROWS];
        final int[] following = new int[ROWS];
        final long[] cells = new long[ROWS * ROW];
        final int[] order = new int[ROWS];
        final int[] spare = new int[ROWS];
        int results;

        Finder(Store store, Ledger ledger, Serial serial, Machine machine) {
            this.store = store;
            this.ledger = ledger;
            this.serial = serial;
            this.machine = machine;
        }

        int find(Session x) {
            Statement st = x.st;
            machine.values = x.work.values;
            int n = st.tables - st.first();
            split(st.code);
            for (int t = 0; t < n; t++) {
                int slot = st.slot[st.first() + t];
                path(st.code, t, slot);
                if (x.guard >= 0) {
                    serial.read(x.guard, slot, column[t], flags[t], bounds, t * 2 * CELL);
                }
            }
            if (x.guard >= 0 && serial.readFails(x.guard)) {
                return NOT_SERIAL;
            }
            long product = 1;
            for (int t = 0; t < n; t++) {
                gather(x, t, store.tables[st.slot[st.first() + t]]);
                product *= Math.max(1, candidateCount[t]);
            }
            x.work.phase = st.isQuery() ? PROJECTING : SHOWING;
            return product <= COMBINATIONS && combine(st.code, n) ? ON : TOO_LARGE;
        }

        /** The range of one value alone, as the bounds of a table's range or, at 0, for one look. */
        void oneValue(long[] a, int i, int at) {
            Machine.copy(a, i, bounds, at);
            Machine.copy(a, i, bounds, at + CELL);
        }

        /** The right side of an AND is put off behind its left side. */
        private void split(Code code) {
            conditionCount = 0;
            if (code.whereFrom == code.whereTo) {
                return;
            }
            int open = 1;
            order[0] = code.whereTo - 1;
            for (int i = 0; i < 2 * NODES && open > 0; i++) {
                open--;
                int node = order[open];
                if (code.op[node] == N_AND) {
                    order[open] = node - 1;
                    order[open + 1] = code.begin[node - 1] - 1;
                    open += 2;
                } else {
                    conditions[conditionCount] = node;
                    conditionCount++;
                }
            }
        }

        private void path(Code code, int t, int slot) {
            flags[t] = R_WHOLE;
            column[t] = 0;
            for (int pass = 0; pass < 2; pass++) {
                for (int i = 0; i < store.indexes; i++) {
                    if (store.indexTable[i] != slot) {
                        continue;
                    }
                    int c = store.indexColumn[i];
                    boolean named = false;
                    for (int k = 0; k < conditionCount && !(pass == 0 && named); k++) {
                        named |= narrow(code, conditions[k], t, c, pass == 0);
                    }
                    if (named) {
                        column[t] = c;
                        return;
                    }
                }
            }
        }

        /** Narrows a table's range by a condition, if that is one on the column, with = or with something else. */
        private boolean narrow(Code code, int node, int t, int c, boolean equal) {
            int op = code.op[node];
            if (equal ? op != N_EQ : op < N_LT || op > N_GE) {
                return false;
            }
            int right = code.begin[node - 1];
            int from = right;
            int to = node;
            if (right - 1 != code.begin[node] || !isColumn(code, right - 1, t, c)) {
                // The other way round; < and >, <= and >= change places.
                if (right != node - 1 || !isColumn(code, right, t, c)) {
                    return false;
                }
                from = code.begin[node];
                to = right;
                op = equal ? op : op >= N_GT ? op - 2 : op + 2;
            }
            for (int i = from; i < to; i++) {
                if (code.op[i] == N_PLACE) {
                    return false;
                }
            }
            machine.work(code, from, to);
            bound(op, t);
            return true;
        }

        private boolean isColumn(Code code, int node, int t, int c) {
            return code.op[node] == N_PLACE && code.left[node] == t && code.right[node] == c;
        }

        /** Takes the value on the stack as a bound, if it is nearer than the one that is there. */
        private void bound(int op, int t) {
            int at = t * 2 * CELL;
            if (flags[t] == R_WHOLE) {
                for (int k = 0; k < 2 * CELL; k++) {
                    bounds[at + k] = 0;
                }
            }
            if (flags[t] == R_EMPTY || Machine.isNull(machine.stack, 0)) {
                flags[t] = R_EMPTY;
                return;
            }
            if (op == N_EQ) {
                oneValue(machine.stack, 0, at);
                flags[t] = R_ONE;
                return;
            }
            boolean lower = op >= N_GT;
            boolean with = op == N_LE || op == N_GE;
            int has = lower ? R_LOWER : R_UPPER;
            int hasWith = lower ? R_LOWER_IN : R_UPPER_IN;
            int place = lower ? at : at + CELL;
            int sign = Machine.compare(machine.stack, 0, bounds, place);
            boolean nearer = (flags[t] & has) == 0 || (lower ? sign > 0 : sign < 0);
            if (nearer) {
                Machine.copy(machine.stack, 0, bounds, place);
                flags[t] = flags[t] & ~hasWith | has | (with ? hasWith : 0);
            } else if (sign == 0 && !with) {
                flags[t] &= ~hasWith;
            }
        }

        private void gather(Session x, int t, Table table) {
            int n = 0;
            for (int i = 0; i < table.versions; i++) {
                int v = table.order[i];
                if (Machine.isInside(store.values, v * ROW + column[t] * CELL, flags[t], bounds, t * 2 * CELL)
                    && ledger.sees(x, store.maker[v], store.makerCommand[v])
                    && !ledger.sees(x, store.end[v], store.endCommand[v])) {
                    candidates[t * VERSIONS + n] = v;
                    n++;
                }
            }
            candidateCount[t] = n;
        }

        /** Goes over all combinations; false if too many of them are rows. */
        private boolean combine(Code code, int n) {
            int[] row = machine.row;
            int all = 1;
            for (int t = 0; t < n; t++) {
                all *= candidateCount[t];
            }
            rows = 0;
            for (int i = 0; i < all; i++) {
                int rest = i;
                for (int t = n - 1; t >= 0; t--) {
                    int many = Math.max(1, candidateCount[t]);
                    row[t] = candidates[t * VERSIONS + rest % many];
                    rest /= many;
                }
                if (!machine.isTrue(code)) {
                    continue;
                }
                if (rows >= ROWS) {
                    return false;
                }
                System.arraycopy(row, 0, combos, rows * JOINED, JOINED);
                rows++;
            }
            return true;
        }

        /** Makes the query's results of its rows: groups, items, DISTINCT, ORDER BY, LIMIT. */
        int project(Session x) {
            Statement st = x.st;
            x.work.phase = SHOWING;
            results = 0;
            if (st.code.aggregates || st.groups > 0) {
                projectGroups(st);
            } else {
                for (int r = 0; r < rows; r++) {
                    setRow(r);
                    addResult(st);
                }
            }
            sort(st);
            results = (int) Math.min(results, st.limit);
            return ON;
        }

        private void setRow(int r) {
            System.arraycopy(combos, r * JOINED, machine.row, 0, JOINED);
        }

        private void addResult(Statement st) {
            Code code = st.code;
            int at = results * ROW;
            for (int i = 0; i < code.exprs && i < ITEMS; i++) {
                machine.work(code, code.from[i], code.to[i]);
                Machine.copy(machine.stack, 0, cells, at + i * CELL);
            }
            for (int r = 0; st.distinct && r < results; r++) {
                if (isLike(r * ROW, at, code.exprs)) {
                    return;
                }
            }
            order[results] = results;
            results++;
        }

        private boolean isLike(int a, int b, int n) {
            for (int i = 0; i < n * CELL; i++) {
                if (cells[a + i] != cells[b + i]) {
                    return false;
                }
            }
            return true;
        }

        private void projectGroups(Statement st) {
            int groups = st.groups == 0 ? 1 : 0;
            if (st.groups == 0) {
                groupFirst[0] = rows == 0 ? -1 : 0;
                groupLast[0] = -1;
            }
            for (int r = 0; r < rows; r++) {
                int g = 0;
                for (; g < groups && st.groups > 0 && !isSameGroup(st, groupFirst[g], r); g++) {
                }
                if (g == groups) {
                    groups++;
                    groupFirst[g] = r;
                    groupLast[g] = -1;
                }
                if (groupLast[g] >= 0) {
                    following[groupLast[g]] = r;
                }
                groupLast[g] = r;
                following[r] = -1;
            }
            for (int g = 0; g < groups; g++) {
                machine.clearTotals(st.code);
                int r = groupFirst[g];
                for (int i = 0; i < rows && r >= 0; i++) {
                    setRow(r);
                    machine.addToTotals(st.code);
                    r = following[r];
                }
                machine.grouped = true;
                addResult(st);
                machine.grouped = false;
            }
        }

        private boolean isSameGroup(Statement st, int r, int s) {
            for (int g = 0; g < st.groups; g++) {
                int t = st.code.left[st.group[g]];
                int c = st.code.right[st.group[g]] * CELL;
                int a = combos[r * JOINED + t] * ROW + c;
                int b = combos[s * JOINED + t] * ROW + c;
                if (Machine.compare(store.values, a, store.values, b) != 0) {
                    return false;
                }
            }
            return true;
        }

        /** Merges ever longer runs, so that like results stay in their order. */
        private void sort(Statement st) {
            for (int run = 1; run < results && st.orders > 0; run *= 2) {
                for (int low = 0; low < results; low += 2 * run) {
                    merge(st, low, Math.min(low + run, results), Math.min(low + 2 * run, results));
                }
                System.arraycopy(spare, 0, order, 0, results);
            }
        }

        private void merge(Statement st, int low, int middle, int high) {
            int a = low;
            int b = middle;
            for (int i = low; i < high; i++) {
                if (b >= high || a < middle && !isBefore(st, order[b], order[a])) {
                    spare[i] = order[a];
                    a++;
                } else {
                    spare[i] = order[b];
                    b++;
                }
            }
        }

        private boolean isBefore(Statement st, int a, int b) {
            for (int i = 0; i < st.orders; i++) {
                int item = (Math.abs(st.order[i]) - 1) * CELL;
                int sign = Machine.compare(cells, a * ROW + item, cells, b * ROW + item);
                if (sign != 0) {
                    return st.order[i] < 0 ? sign > 0 : sign < 0;
                }
            }
            return false;
        }

        void answer(Work work, Code code) {
            for (int i = 0; i < results; i++) {
                int mark = work.beginFrame('D');
                for (int k = 0; k < code.exprs; k++) {
                    work.putCell(cells, order[i] * ROW + k * CELL, code.type[k]);
                }
                work.endFrame(mark);
            }
        }

        /** Targets of UPDATE and DELETE are all rows, those of FOR the results. */
        void keepTargets(Session x) {
            boolean all = x.st.kind != QUERY;
            x.work.rows = all ? rows : results;
            for (int i = 0; i < x.work.rows; i++) {
                x.work.targets[i] = combos[(all ? i : order[i]) * JOINED];
            }
        }

        void keepRows(Work work) {
            if (work.cells == null) {
                work.cells = new long[ROWS * ROW];
            }
            work.rows = results;
            for (int i = 0; i < results; i++) {
                System.arraycopy(cells, order[i] * ROW, work.cells, i * ROW, ROW);
            }
        }
    }
}
