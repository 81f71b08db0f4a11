import java.util.Arrays;

/**
 * A hall of tables: scripts of statements, typed as bytes, are done for four sessions. The promises
 * that the numbers of comments tell are those of the document.
 */
public final class Snapshothall {
    public static final int NONE = -1;
    public static final int NAMES = 2, STATE = 3, FULL = 4, RULE = 5, CONFLICT = 6, POWER = 7;
    public static final int OPEN = 0, COMMITTED = 1, ROLLED_BACK = 2;

    private static final int MOST_BYTES = 700;
    private static final int MOST_SERIAL = 12;
    private static final int MOST_SERIAL_WORK = 400;
    private static final int MOST_CELLS = 100000;
    private static final int FIRST_BYTE = 32, LAST_BYTE = 126;
    private static final int LONG_BYTES = 8, TYPED_BYTES = 40;
    private static final int MOST_RESULTS = 40, RESULT_WIDE = 6;
    private static final int OWNER = 0, FROM = 1, TO = 2, REFUSAL = 3, NUMBER = 4, COLUMNS = 5, CELL = 6;
    private static final int RECORD_WIDE = 7;

    private static final int INT = 1, WORD = 2;
    private static final long LEAST = 0x8000000000000000L, GREATEST = 0x7FFFFFFFFFFFFFFFL;
    private static final int LATEST = 0x7FFFFFFF;
    private static final int MOST_COLUMNS = 6;
    private static final int MOST_DEPTH = 10;
    private static final int MOST_SOURCES = 3;

    private final byte[] text = new byte[MOST_BYTES];
    private final byte[] typed = new byte[TYPED_BYTES];
    private final Tree script = new Tree();
    private final Parser parser = new Parser();
    private final Hall hall = new Hall();
    private Hall secondHall;
    private int length;
    // The results of the latest script.
    private int resultCount;
    private final int[] told = new int[MOST_RESULTS * RESULT_WIDE];
    private final Rows[] answer = new Rows[MOST_RESULTS];
    // The statements of SERIALIZABLE transactions: what they were told, their texts, the cells of their answers.
    private int records;
    private int[] record = new int[0];
    private byte[] recordText = new byte[0];
    private int recordLength;
    private long[] recordCell = new long[0];
    private int recordCells;

    /** Promise 1. */
    public Snapshothall() {
        length = 0;
    }

    // ---- texts and results

    /** Promise 2. */
    public int type(long a, long b, long c, long d, long e)
            throws IllegalArgumentException, IllegalStateException {
        int bytes = spell(e, spell(d, spell(c, spell(b, spell(a, 0)))));
        if (bytes == NONE) {
            throw new IllegalArgumentException("a byte is not 32 to 126");
        }
        if (length + bytes > MOST_BYTES) {
            throw new IllegalStateException("the text would be too long");
        }
        System.arraycopy(typed, 0, text, length, bytes);
        length += bytes;
        return length;
    }

    /** Puts the bytes of a number behind those typed so far; NONE as soon as one was wrong. */
    private int spell(long number, int soFar) {
        int bytes = soFar;
        for (int i = LONG_BYTES - 1; i >= 0 && bytes != NONE; i--) {
            int one = (int) (number >>> (8 * i)) & 255;
            if (one == 0) {
                continue;
            }
            if (one < FIRST_BYTE || one > LAST_BYTE || bytes >= TYPED_BYTES) {
                return NONE;
            }
            typed[bytes++] = (byte) one;
        }
        return bytes;
    }

    /** Promise 3. */
    public int clearText() {
        int before = length;
        length = 0;
        return before;
    }

    /** Promise 4. */
    public int fault() {
        return parser.read(script, text, 0, length);
    }

    /** Promise 5. */
    public int run() throws IllegalArgumentException {
        if (parser.read(script, text, 0, length) != NONE) {
            throw new IllegalArgumentException("the text has a fault");
        }
        length = 0;
        resultCount = 0;
        for (int n = script.firstStatement(); n != 0; n = script.after(n)) {
            hall.perform(script, n);
            keepResult(n);
        }
        return resultCount;
    }

    /** Keeps the outcome of a statement as a result, and the statement if it was one of a transaction. */
    private void keepResult(int n) {
        if (resultCount >= MOST_RESULTS) {
            return;
        }
        if (answer[resultCount] == null) {
            answer[resultCount] = new Rows();
        }
        Rows rows = answer[resultCount];
        rows.start(0);
        if (hall.answer != null) {
            rows.take(hall.answer, hall.answerFrom, hall.number);
        }
        int at = resultCount * RESULT_WIDE;
        told[at] = script.op(n);
        told[at + 1] = hall.refusal;
        told[at + 2] = hall.number;
        told[at + 3] = hall.refusal == 0 ? NONE : hall.place;
        told[at + 4] = rows.columns();
        told[at + 5] = hall.broken();
        resultCount++;
        if (hall.ledger.canBeTold(hall.transaction) && hall.ledger.toTell() <= MOST_SERIAL) {
            addRecord(script.place(n), script.kept(n) + 1);
        }
    }

    /** Keeps a statement, whose bytes are those of the text from first up to last, with its outcome. */
    private void addRecord(int first, int last) {
        int bytes = Math.min(last, MOST_BYTES) - first;
        if (bytes <= 0 || first < 0) {
            return;
        }
        int cells = Rows.cells(columnsOf(hall), hall.number);
        // An answer behind so much work is never compared, as isSerial throws.
        boolean isKept = hall.ledger.leastWork(hall.transaction) <= MOST_SERIAL_WORK;
        makeRoom(bytes, isKept ? cells : 0);
        int at = records * RECORD_WIDE;
        record[at + OWNER] = hall.transaction;
        record[at + FROM] = recordLength;
        record[at + TO] = recordLength + bytes;
        record[at + REFUSAL] = hall.refusal;
        record[at + NUMBER] = hall.number;
        record[at + COLUMNS] = columnsOf(hall);
        record[at + CELL] = isKept ? recordCells : NONE;
        System.arraycopy(text, first, recordText, recordLength, bytes);
        if (isKept && hall.answer != null) {
            hall.answer.write(hall.answerFrom, hall.number, recordCell, recordCells);
            recordCells += cells;
        }
        records++;
        recordLength += bytes;
    }

    /** Makes room for one more record, first of all where those stand that are of no use any more. */
    private void makeRoom(int bytes, int cells) {
        if (!hasRoom(bytes, cells)) {
            forgetRecords();
        }
        if (hasRoom(bytes, cells)) {
            return;
        }
        if (RECORD_WIDE * (records + 1) > record.length) {
            record = Arrays.copyOf(record, 2 * RECORD_WIDE * (records + 8));
        }
        if (recordLength + bytes > recordText.length) {
            recordText = Arrays.copyOf(recordText, 2 * (recordLength + bytes));
        }
        if (recordCells + cells > recordCell.length) {
            recordCell = Arrays.copyOf(recordCell, 2 * (recordCells + cells));
        }
    }

    private boolean hasRoom(int bytes, int cells) {
        return RECORD_WIDE * (records + 1) <= record.length && recordLength + bytes <= recordText.length
                && recordCells + cells <= recordCell.length;
    }

    /** Forgets the records of transactions that the order can never tell; the others move up. */
    private void forgetRecords() {
        int all = records;
        records = 0;
        recordLength = 0;
        recordCells = 0;
        for (int r = 0; r < all; r++) {
            int at = r * RECORD_WIDE;
            if (!hall.ledger.canBeTold(record[at + OWNER])) {
                continue;
            }
            int to = records * RECORD_WIDE;
            System.arraycopy(record, at, record, to, RECORD_WIDE);
            int bytes = record[to + TO] - record[to + FROM];
            System.arraycopy(recordText, record[to + FROM], recordText, recordLength, bytes);
            record[to + FROM] = recordLength;
            recordLength += bytes;
            record[to + TO] = recordLength;
            if (record[to + CELL] != NONE) {
                int cells = Rows.cells(record[to + COLUMNS], record[to + NUMBER]);
                System.arraycopy(recordCell, record[to + CELL], recordCell, recordCells, cells);
                record[to + CELL] = recordCells;
                recordCells += cells;
            }
            records++;
        }
    }

    private static int columnsOf(Hall of) {
        return of.answer == null ? 0 : of.answer.columns();
    }

    /** Promise 6. */
    public int results() {
        return resultCount;
    }

    /** Promise 7. */
    public int result(int index, int what) throws IndexOutOfBoundsException, IllegalArgumentException {
        if (index < 0 || index >= resultCount || index >= MOST_RESULTS) {
            throw new IndexOutOfBoundsException("no such result");
        }
        if (what < 0 || what >= RESULT_WIDE) {
            throw new IllegalArgumentException("what is out of range");
        }
        return told[index * RESULT_WIDE + what];
    }

    /** Promise 8. */
    public boolean isNull(int index, int row, int column) throws IndexOutOfBoundsException {
        Rows rows = answerOf(index);
        if (rows == null || !rows.has(row, column)) {
            throw new IndexOutOfBoundsException("no such result, row or column");
        }
        return rows.lacks(row, column);
    }

    /** Promise 9. */
    public long cell(int index, int row, int column) throws IndexOutOfBoundsException {
        Rows rows = answerOf(index);
        if (rows == null || !rows.has(row, column)) {
            throw new IndexOutOfBoundsException("no such result, row or column");
        }
        return rows.at(row, column);
    }

    private Rows answerOf(int index) {
        return index >= 0 && index < resultCount && index < MOST_RESULTS ? answer[index] : null;
    }

    /** Promise 10. */
    public int outputByte(int index) {
        return hall.outputAt(index);
    }

    // ---- sessions and transactions

    /** Promise 11. */
    public int session(int session, int what) throws IndexOutOfBoundsException, IllegalArgumentException {
        Session one = hall.sessionAt(session);
        if (one == null) {
            throw new IndexOutOfBoundsException("no such session");
        }
        if (what < 0 || what > 2) {
            throw new IllegalArgumentException("what is out of range");
        }
        return what == 0 ? one.transaction : what == 1 ? one.saves : one.cursors;
    }

    /** Promise 12. */
    public int transactions() {
        return hall.ledger.count();
    }

    /** Promise 13. */
    public int transaction(int transaction, int what)
            throws IndexOutOfBoundsException, IllegalArgumentException {
        if (!hall.ledger.has(transaction)) {
            throw new IndexOutOfBoundsException("no such transaction");
        }
        if (what < 0 || what > 8) {
            throw new IllegalArgumentException("what is out of range");
        }
        if (what == 7) {
            return hall.ledger.edgesTo(transaction);
        }
        return what == 8 ? hall.ledger.edgesFrom(transaction) : hall.ledger.tell(transaction, what);
    }

    /** Promise 14. */
    public boolean isEdge(int from, int to) throws IndexOutOfBoundsException {
        if (!hall.ledger.has(from) || !hall.ledger.has(to)) {
            throw new IndexOutOfBoundsException("no such transaction");
        }
        return hall.ledger.leads(from, to);
    }

    /** Promise 15. */
    public int order(int index) throws IllegalArgumentException {
        if (index < 0) {
            throw new IllegalArgumentException("index is below 0");
        }
        return hall.ledger.toldAt(index);
    }

    /** Promise 16. */
    public int clock() {
        return hall.ledger.time();
    }

    // ---- tables and indexes

    /** Promise 17. */
    public int tableOf(long name) {
        return hall.store.findTable(name);
    }

    /** Promise 18. */
    public int table(int table, int what) throws IndexOutOfBoundsException, IllegalArgumentException {
        Table one = hall.store.tableAt(table);
        if (one == null) {
            throw new IndexOutOfBoundsException("no such table");
        }
        if (what < 0 || what > 6) {
            throw new IllegalArgumentException("what is out of range");
        }
        return hall.store.tell(one, what);
    }

    /** Promise 19. */
    public int spread(int table, int column) throws IndexOutOfBoundsException {
        Table one = hall.store.tableAt(table);
        if (one == null || !one.hasColumn(column)) {
            throw new IndexOutOfBoundsException("no such table or column");
        }
        return one.spreadOf(column);
    }

    /** Promise 20. */
    public int version(int table, int place, int what)
            throws IndexOutOfBoundsException, IllegalArgumentException {
        Table one = hall.store.tableAt(table);
        if (one == null || place < 0 || place >= one.count()) {
            throw new IndexOutOfBoundsException("no such table or place");
        }
        if (what < 0 || what > 2) {
            throw new IllegalArgumentException("what is out of range");
        }
        if (what == 2) {
            return one.isDead(place) ? 1 : 0;
        }
        return what == 0 ? one.maker(place) : one.ender(place);
    }

    /** Promise 21. */
    public long valueAt(int table, int place, int column) throws IndexOutOfBoundsException {
        Table one = hall.store.tableAt(table);
        if (one == null || !one.hasColumn(column) || place < 0 || place >= one.count()) {
            throw new IndexOutOfBoundsException("no such table, place or column");
        }
        return one.told(place, column);
    }

    /** Promise 22. */
    public int indexOf(int table, int column) throws IndexOutOfBoundsException {
        Table one = hall.store.tableAt(table);
        if (one == null || !one.hasColumn(column)) {
            throw new IndexOutOfBoundsException("no such table or column");
        }
        return hall.store.firstIndex(table, column);
    }

    /** Promise 23. */
    public int index(int index, int what) throws IndexOutOfBoundsException, IllegalArgumentException {
        Index one = hall.store.indexAt(index);
        if (one == null) {
            throw new IndexOutOfBoundsException("no such index");
        }
        if (what < 0 || what > 4) {
            throw new IllegalArgumentException("what is out of range");
        }
        return one.tell(what);
    }

    /** Promise 24. */
    public int entryAt(int index, int entry) throws IndexOutOfBoundsException {
        Index one = hall.store.indexAt(index);
        if (one == null || entry < 0 || entry >= one.count()) {
            throw new IndexOutOfBoundsException("no such index or entry");
        }
        return one.placeAt(entry);
    }

    // ---- log

    /** Promise 25. */
    public int setFuse(int cells, boolean isBehind) throws IllegalArgumentException {
        if (cells < 0 || cells > MOST_CELLS) {
            throw new IllegalArgumentException("cells is out of range");
        }
        return hall.light(cells, isBehind);
    }

    /** Promise 26. */
    public int writes() {
        return hall.written;
    }

    /** Promise 27. */
    public boolean isDown() {
        return hall.isFallen;
    }

    /** Promise 28. */
    public int restart() throws IllegalStateException {
        if (!hall.isFallen) {
            throw new IllegalStateException("the power did not fall");
        }
        return hall.rise();
    }

    /** Promise 29. */
    public int checkpoint() throws IllegalStateException {
        if (hall.isFallen || hall.isBusy()) {
            throw new IllegalStateException("the power fell, or a transaction is open");
        }
        return hall.writeAside();
    }

    // ---- checks

    /** Promise 30. */
    public long checksum() {
        return hall.store.sum();
    }

    /** Promise 31. */
    public double meanVersions() {
        int tables = hall.store.tablesThere();
        return tables == 0 ? 0.0 : (double) hall.store.versionsThere() / (double) tables;
    }

    /** Promise 32. */
    public float unseenShare() {
        int all = hall.store.versionsThere();
        return all == 0 ? 0.0f : (float) (all - hall.store.versionsSeen()) / (float) all;
    }

    /** Promise 33. */
    public boolean isSerial() throws IllegalStateException {
        if (hall.isFallen || hall.isBusy() || hall.ledger.toldCount() > MOST_SERIAL) {
            throw new IllegalStateException("the theorem cannot be looked at now");
        }
        if (secondHall == null) {
            secondHall = new Hall();
        }
        secondHall.clear();
        boolean isAlike = true;
        int work = 0;
        for (int i = 0; i < hall.ledger.toldCount(); i++) {
            int one = hall.ledger.toldAt(i);
            for (int r = 0; r < records; r++) {
                if (record[r * RECORD_WIDE + OWNER] != one
                        || parser.read(script, recordText, record[r * RECORD_WIDE + FROM],
                                record[r * RECORD_WIDE + TO]) != NONE) {
                    continue;
                }
                secondHall.isRoomy = record[r * RECORD_WIDE + REFUSAL] != FULL;
                secondHall.perform(script, script.firstStatement());
                work += secondHall.work;
                if (work > MOST_SERIAL_WORK) {
                    throw new IllegalStateException("the work is too much");
                }
                isAlike = isAlikeAnew(r * RECORD_WIDE) && isAlike;
                secondHall.store.easeCrowd();
            }
        }
        return isAlike && hall.store.isLike(secondHall.store);
    }

    /** Whether the outcome in the second hall is like that of a record, where that was no CONFLICT or POWER. */
    private boolean isAlikeAnew(int at) {
        if (record[at + REFUSAL] == CONFLICT || record[at + REFUSAL] == POWER) {
            return true;
        }
        return record[at + REFUSAL] == secondHall.refusal && record[at + NUMBER] == secondHall.number
                && record[at + COLUMNS] == columnsOf(secondHall)
                && (secondHall.answer == null || record[at + CELL] != NONE && secondHall.answer.isWritten(
                        secondHall.answerFrom, secondHall.number, recordCell, record[at + CELL]));
    }

    /** Promise 34. */
    public int errors() {
        return hall.errorsFound();
    }

    // ---- texts as trees

    /**
     * The parts of a text as nodes of ten small numbers and a long each; node 0 is none. NEXT is the next
     * node of a list, OP the sign ahead of a part of a sum or term, else:
     * <ul>
     * <li>statements: value and D name and its place, A B parts, C table, OP session, E end of nodes, TYPE of text;
     * <li>QUERY: A blocks, B keys, C limit, D offset, E end of nodes, OP depth;
     * <li>BLOCK: A items, B sources, C where, D group by, E end of nodes, OP union or except, value items;
     * <li>HEAD, the node behind a BLOCK: A having, B place of a star, C of from, D distinct, E aggregates, OP depth;
     * <li>SOURCE: A name behind as, B on, C number and 1, OP join or left join; ITEM: A sum, B name behind as;
     * <li>REF: A name ahead of the dot, B C D depth, source and column that it tells, TYPE their type;
     * <li>tests and sums: A B C their parts, C also the sign, or 1 for a not ahead of in and behind is;
     * <li>COMPARE: D and E, where the nodes of its sides begin; BETWEEN: D 1 for a not; aggregates: B distinct, E depth.
     * </ul>
     */
    private static final class Tree {
        static final int NUMBER = 1, LETTERS = 2, EMPTY = 3, REF = 4, MINUS = 5, PAREN = 6, CASE = 7;
        static final int COALESCE = 8, COUNT_ALL = 9, COUNT = 10, SUM = 11, MIN = 12, MAX = 13;
        static final int SUMS = 14, TERMS = 15;
        static final int OR = 20, AND = 21, NOT = 22, BRACKET = 23, EXISTS = 24, COMPARE = 25;
        static final int IS_NULL = 26, IN = 27, IN_QUERY = 28, BETWEEN = 29;
        static final int QUERY = 30, BLOCK = 31, HEAD = 32, SOURCE = 33, ITEM = 34, KEY = 35, NAME = 36;
        static final int COLUMN = 37, RULES = 38, TUPLE = 39, SET = 40;
        static final int CREATE_TABLE = 50, CREATE_INDEX = 51, CREATE_VIEW = 52, DROP_TABLE = 53;
        static final int DROP_INDEX = 54, DROP_VIEW = 55, INSERT = 56, UPDATE = 57, DELETE = 58;
        static final int SELECT = 59, BEGIN = 60, COMMIT = 61, ROLLBACK = 62, ROLLBACK_TO = 63, SAVE = 64;
        static final int OPEN_CURSOR = 65, FETCH = 66, CLOSE = 67, EXPLAIN = 68, VACUUM = 69, ANALYZE = 70;

        static final int KIND = 0, PLACE = 1, A = 2, B = 3, C = 4, D = 5, E = 6, OP = 7, NEXT = 8, TYPE = 9;
        private static final int WIDE = 10;

        private int[] field = new int[0];
        private long[] value = new long[0];
        private int base = 1;
        private int end = 1;
        private int first;

        void clear() {
            base = 1;
            end = 1;
            first = 0;
        }

        /** Takes over the nodes from first up to last of another tree, under their numbers. */
        void copy(Tree from, int first, int last) {
            int howMany = last - first;
            if (first < from.base || last > from.end || howMany < 0) {
                return;
            }
            if (howMany > value.length) {
                field = new int[howMany * WIDE];
                value = new long[howMany];
            }
            System.arraycopy(from.field, (first - from.base) * WIDE, field, 0, howMany * WIDE);
            System.arraycopy(from.value, first - from.base, value, 0, howMany);
            base = first;
            end = last;
        }

        int add(int kind, int place) {
            int at = end - base;
            if (at >= value.length) {
                int howMany = 2 * value.length + 64;
                field = Arrays.copyOf(field, howMany * WIDE);
                value = Arrays.copyOf(value, howMany);
            }
            Arrays.fill(field, at * WIDE, at * WIDE + WIDE, 0);
            value[at] = 0;
            field[at * WIDE + KIND] = kind;
            field[at * WIDE + PLACE] = place;
            end++;
            return end - 1;
        }

        void put(int node, int what, int number) {
            if (node >= base && node < end) {
                field[(node - base) * WIDE + what] = number;
            }
        }

        void putValue(int node, long number) {
            if (node >= base && node < end) {
                value[node - base] = number;
            }
        }

        /** Puts a node behind the last one of a list; answers it. */
        int link(int last, int node) {
            put(last, NEXT, node);
            return node;
        }

        int startAt(int node) {
            first = node;
            return node;
        }

        /** The next one of a list; the nodes of a list have growing numbers. */
        int after(int node) {
            int next = node >= base && node < end ? field[(node - base) * WIDE + NEXT] : 0;
            return next > node ? next : 0;
        }

        int firstStatement() {
            return first;
        }

        int begin() {
            return base;
        }

        int end() {
            return end;
        }

        int kind(int node) {
            return node >= base && node < end ? field[(node - base) * WIDE + KIND] : 0;
        }

        int place(int node) {
            return node >= base && node < end ? field[(node - base) * WIDE + PLACE] : 0;
        }

        int a(int node) {
            return node >= base && node < end ? field[(node - base) * WIDE + A] : 0;
        }

        int b(int node) {
            return node >= base && node < end ? field[(node - base) * WIDE + B] : 0;
        }

        int c(int node) {
            return node >= base && node < end ? field[(node - base) * WIDE + C] : 0;
        }

        int d(int node) {
            return node >= base && node < end ? field[(node - base) * WIDE + D] : 0;
        }

        int e(int node) {
            return node >= base && node < end ? field[(node - base) * WIDE + E] : 0;
        }

        int op(int node) {
            return node >= base && node < end ? field[(node - base) * WIDE + OP] : 0;
        }

        int kept(int node) {
            return node >= base && node < end ? field[(node - base) * WIDE + TYPE] : 0;
        }

        long value(int node) {
            return node >= base && node < end ? value[node - base] : 0;
        }

        /** The first part that the ands of a test join; none if it has an or at its top. */
        int firstPart(int test) {
            int kind = kind(test);
            return kind == OR ? 0 : kind == AND ? a(test) : test;
        }

        int nextPart(int test, int part) {
            return kind(test) == AND ? after(part) : 0;
        }
    }

    /** Reads texts by the grammar of section 2 into trees, and finds their faults. */
    private static final class Parser {
        private static final String KEYWORDS =
                "create table index on view as drop insert into values update set where delete from begin snapshot commit rollback to save open for fetch close explain vacuum analyze int word not null primary unique check refer union except order by limit offset select distinct join left group having down or and exists is in between case when then else end coalesce count sum min max ";
        private static final int KEYWORD_COUNT = 65;
        private static final int END = 256, BAD = 257, NAME = 258, NUMBER = 259, QUOTED = 260;
        private static final int AT_MOST = 261, AT_LEAST = 262, UNLIKE = 263;
        private static final int CREATE = 300, TABLE = 301, INDEX = 302, ON = 303, VIEW = 304, AS = 305;
        private static final int DROP = 306, INSERT = 307, INTO = 308, VALUES = 309, UPDATE = 310, SET = 311;
        private static final int WHERE = 312, DELETE = 313, FROM = 314, BEGIN = 315, SNAPSHOT = 316;
        private static final int COMMIT = 317, ROLLBACK = 318, TO = 319, SAVE = 320, OPEN_WORD = 321, FOR = 322;
        private static final int FETCH = 323, CLOSE = 324, EXPLAIN = 325, VACUUM = 326, ANALYZE = 327;
        private static final int INT_WORD = 328, WORD_WORD = 329, NOT = 330, NULL_WORD = 331, PRIMARY = 332;
        private static final int UNIQUE = 333, CHECK = 334, REFER = 335, UNION = 336, EXCEPT = 337, ORDER = 338;
        private static final int BY = 339, LIMIT = 340, OFFSET = 341, SELECT = 342, DISTINCT = 343, JOIN = 344;
        private static final int LEFT = 345, GROUP = 346, HAVING = 347, DOWN = 348, OR = 349, AND = 350;
        private static final int EXISTS = 351, IS = 352, IN = 353, BETWEEN = 354, CASE = 355, WHEN = 356;
        private static final int THEN = 357, ELSE = 358, END_WORD = 359, COALESCE = 360, COUNT = 361;
        private static final int SUM = 362, MIN = 363, MAX = 364;

        private static final int MOST_STATEMENTS = 40, MOST_ITEMS = 10, MOST_TUPLES = 10, MOST_BLOCKS = 3;
        private static final int MOST_RULES = 6, MOST_GROUPED = 3, MOST_KEYS = 3, MOST_VALUES = 6, MOST_OPEN = 8;
        private static final int LETTERS = 8, DIGITS = 9;
        /** More than a text can have parts of one list. */
        private static final int MANY = 701;

        private final long[] keyword = new long[KEYWORD_COUNT];
        private Tree tree;
        // The tokens of the text, up to its end or the first byte that begins none.
        private final int[] kinds = new int[MANY];
        private final int[] places = new int[MANY];
        private final int[] ends = new int[MANY];
        private final long[] values = new long[MANY];
        private byte[] text;
        private int at;
        private int end;
        private int next;
        private int token;
        private int place;
        private long tokenValue;
        private int fault;
        private int open;
        /** How deep the next query stands. */
        private int level;
        /** The block whose items are read now; 0 if none. */
        private int itemsOf;

        Parser() {
            int k = 0;
            for (int i = 0; i < KEYWORDS.length() && k < KEYWORD_COUNT; i++) {
                if (KEYWORDS.charAt(i) == ' ') {
                    k++;
                } else {
                    keyword[k] = keyword[k] << 8 | KEYWORDS.charAt(i);
                }
            }
        }

        /** Reads the bytes from first up to last as a script; answers its fault, NONE without one. */
        int read(Tree into, byte[] from, int first, int last) {
            tree = into;
            tree.clear();
            text = from;
            at = Math.max(0, first);
            end = Math.min(last, from.length);
            lex();
            fault = NONE;
            open = 0;
            itemsOf = 0;
            next = 0;
            step();
            int session = 0;
            int latest = 0;
            for (int i = 0; i < MOST_STATEMENTS && token != END && fault == NONE; i++) {
                if (token == NUMBER) {
                    session = digit();
                }
                int n = statement(session);
                latest = latest == 0 ? tree.startAt(n) : tree.link(latest, n);
            }
            if (token != END) {
                fail();
            }
            return fault;
        }

        // tokens

        /** Finds the tokens of the text. */
        private void lex() {
            token = 0;
            for (int i = 0; i < MANY && token != END && token != BAD; i++) {
                while (at < end && text[at] == ' ') {
                    at++;
                }
                places[i] = at;
                tokenValue = 0;
                int one = at < end ? text[at] : 0;
                if (at >= end) {
                    token = END;
                } else if (isLetter(one)) {
                    letters();
                } else if (isDigit(one)) {
                    digits();
                } else if (one == '\'') {
                    quoted();
                } else {
                    sign(one);
                }
                kinds[i] = token;
                ends[i] = at;
                values[i] = tokenValue;
            }
        }

        private static boolean isLetter(int one) {
            return one >= 'a' && one <= 'z';
        }

        private static boolean isDigit(int one) {
            return one >= '0' && one <= '9';
        }

        /** Passes over letters; answers how many they are, tokenValue is the first eight as a word. */
        private int passLetters() {
            int many = 0;
            for (; at < end && isLetter(text[at]); at++) {
                tokenValue = many < LETTERS ? tokenValue << 8 | text[at] : tokenValue;
                many++;
            }
            return many;
        }

        private void letters() {
            token = NAME;
            if (passLetters() > LETTERS) {
                token = BAD;
            }
            for (int k = 0; k < KEYWORD_COUNT && token == NAME; k++) {
                if (keyword[k] == tokenValue) {
                    token = CREATE + k;
                }
            }
        }

        private void digits() {
            int many = 0;
            for (; at < end && isDigit(text[at]); at++) {
                tokenValue = many < DIGITS ? tokenValue * 10 + (text[at] - '0') : tokenValue;
                many++;
            }
            token = many > DIGITS ? BAD : NUMBER;
        }

        private void quoted() {
            at++;
            int many = passLetters();
            boolean isWhole = many > 0 && many <= LETTERS && at < end && text[at] == '\'';
            token = isWhole ? QUOTED : BAD;
            at++;
            tokenValue = aligned(tokenValue);
        }

        private void sign(int one) {
            int next = at + 1 < end ? text[at + 1] : 0;
            token = BAD;
            if (one == '<' && (next == '=' || next == '>')) {
                token = next == '=' ? AT_MOST : UNLIKE;
            } else if (one == '>' && next == '=') {
                token = AT_LEAST;
            } else if (one == '(' || one == ')' || one == '[' || one == ']' || one == ',' || one == ';'
                    || one == ':' || one == '.' || one == '*' || one == '/' || one == '%' || one == '+'
                    || one == '-' || one == '=' || one == '<' || one == '>') {
                token = one;
            }
            at += token > BAD ? 2 : 1;
        }

        private void fail() {
            if (fault == NONE) {
                fault = place;
            }
            token = BAD;
        }

        /** Goes to the next token; behind a fault, and behind the last one, there is none. */
        private void step() {
            if (fault == NONE && next < MANY) {
                token = kinds[next];
                place = places[next];
                tokenValue = values[next];
                next++;
            }
        }

        /** Whether the token behind this one is a name. */
        private boolean isNameBehind() {
            return next >= 0 && next < MANY && kinds[next] == NAME;
        }

        private boolean take(int wanted) {
            if (token != wanted) {
                return false;
            }
            step();
            return true;
        }

        private void need(int wanted) {
            if (token == wanted) {
                step();
            } else {
                fail();
            }
        }

        /** Takes a token that opens one more of those of which eight can be open. */
        private void enter(int wanted) {
            if (open >= MOST_OPEN) {
                fail();
            }
            open++;
            need(wanted);
        }

        private void leave() {
            open--;
        }

        private void leave(int wanted) {
            open--;
            need(wanted);
        }

        private int nameNode() {
            int n = tree.add(Tree.NAME, place);
            tree.putValue(n, tokenValue);
            if (token == NAME) {
                step();
            } else {
                fail();
            }
            return n;
        }

        private int number() {
            int read = (int) tokenValue;
            if (token == NUMBER) {
                step();
            } else {
                fail();
            }
            return read;
        }

        // statements

        private int digit() {
            int read = (int) tokenValue;
            if (next < 1 || ends[next - 1] - place > 1 || read > 3) {
                fail();
            }
            need(NUMBER);
            need(':');
            return read;
        }

        private int statement(int session) {
            int n = tree.add(0, place);
            tree.put(n, Tree.OP, session);
            level = 0;
            switch (token) {
                case CREATE:
                    step();
                    if (token == TABLE) {
                        createTable(n);
                    } else {
                        createOther(n);
                    }
                    break;
                case DROP:
                    step();
                    drop(n);
                    break;
                case INSERT:
                    insert(n);
                    break;
                case UPDATE:
                    update(n);
                    break;
                case DELETE:
                    step();
                    need(FROM);
                    named(n, Tree.DELETE);
                    level = 1;
                    tree.put(n, Tree.B, where());
                    break;
                case SELECT:
                    tree.put(n, Tree.KIND, Tree.SELECT);
                    tree.put(n, Tree.A, query());
                    break;
                default:
                    control(n);
            }
            tree.put(n, Tree.TYPE, place);
            tree.put(n, Tree.E, tree.end());
            need(';');
            return n;
        }

        /** The statements of transactions, cursors, plans and care. */
        private void control(int n) {
            int word = token;
            if (word < BEGIN || word > ANALYZE || word == SNAPSHOT || word == TO || word == FOR) {
                fail();
                return;
            }
            step();
            switch (word) {
                case BEGIN:
                    tree.put(n, Tree.KIND, Tree.BEGIN);
                    tree.put(n, Tree.A, take(SNAPSHOT) ? 1 : 0);
                    break;
                case COMMIT:
                    tree.put(n, Tree.KIND, Tree.COMMIT);
                    break;
                case ROLLBACK:
                    tree.put(n, Tree.KIND, Tree.ROLLBACK);
                    if (take(TO)) {
                        named(n, Tree.ROLLBACK_TO);
                    }
                    break;
                case SAVE:
                    named(n, Tree.SAVE);
                    break;
                case OPEN_WORD:
                    named(n, Tree.OPEN_CURSOR);
                    need(FOR);
                    tree.put(n, Tree.A, query());
                    break;
                case FETCH:
                    named(n, Tree.FETCH);
                    tree.put(n, Tree.A, number());
                    break;
                case CLOSE:
                    named(n, Tree.CLOSE);
                    break;
                case EXPLAIN:
                    tree.put(n, Tree.KIND, Tree.EXPLAIN);
                    tree.put(n, Tree.A, query());
                    break;
                case VACUUM:
                    tree.put(n, Tree.KIND, Tree.VACUUM);
                    break;
                case ANALYZE:
                    tree.put(n, Tree.KIND, Tree.ANALYZE);
                    break;
                default:
                    break;
            }
        }

        /** Reads the name of a statement, and keeps its place. */
        private void named(int n, int kind) {
            tree.put(n, Tree.KIND, kind);
            tree.put(n, Tree.D, place);
            tree.putValue(n, tokenValue);
            need(NAME);
        }

        private void createOther(int n) {
            int word = token;
            if (word != INDEX && word != VIEW) {
                fail();
                return;
            }
            step();
            if (word == INDEX) {
                named(n, Tree.CREATE_INDEX);
                need(ON);
                tree.put(n, Tree.A, nameNode());
                enter('(');
                tree.put(n, Tree.B, names());
                leave(')');
            } else {
                named(n, Tree.CREATE_VIEW);
                need(AS);
                tree.put(n, Tree.A, query());
            }
        }

        private void createTable(int n) {
            step();
            named(n, Tree.CREATE_TABLE);
            level = 1;
            enter('(');
            int last = column();
            int columns = 1;
            int rules = 0;
            tree.put(n, Tree.A, last);
            for (int i = 0; i < MOST_COLUMNS + MOST_RULES && rules < MOST_RULES; i++) {
                // The comma of one column too many cannot stand, though that of a first rule could.
                boolean isTooMany = rules == 0 && columns >= MOST_COLUMNS && isNameBehind();
                if (isTooMany || !take(',')) {
                    break;
                }
                if (token >= PRIMARY && token <= REFER) {
                    int one = rule();
                    if (rules == 0) {
                        tree.put(n, Tree.B, one);
                    } else {
                        tree.link(last, one);
                    }
                    last = one;
                    rules++;
                } else if (rules == 0 && columns < MOST_COLUMNS) {
                    last = tree.link(last, column());
                    columns++;
                } else {
                    fail();
                }
            }
            leave(')');
        }

        private int column() {
            int n = tree.add(Tree.COLUMN, place);
            tree.putValue(n, tokenValue);
            need(NAME);
            tree.put(n, Tree.A, token == INT_WORD ? INT : WORD);
            if (!take(INT_WORD)) {
                need(WORD_WORD);
            }
            if (take(NOT)) {
                need(NULL_WORD);
                tree.put(n, Tree.B, 1);
            }
            return n;
        }

        private int rule() {
            int n = tree.add(Tree.RULES, place);
            int word = token;
            tree.put(n, Tree.D, word - PRIMARY);
            step();
            enter('(');
            if (word == CHECK) {
                tree.put(n, Tree.B, test());
            } else if (word == UNIQUE) {
                tree.put(n, Tree.A, names());
            } else {
                tree.put(n, Tree.A, nameNode());
            }
            leave(')');
            if (word == REFER) {
                need(TO);
                tree.put(n, Tree.C, nameNode());
            }
            return n;
        }

        private int names() {
            int first = nameNode();
            int last = first;
            for (int i = 0; i < MANY && take(','); i++) {
                last = tree.link(last, nameNode());
            }
            return first;
        }

        private void drop(int n) {
            int word = token;
            if (word != TABLE && word != INDEX && word != VIEW) {
                fail();
                return;
            }
            step();
            named(n, word == TABLE ? Tree.DROP_TABLE : word == INDEX ? Tree.DROP_INDEX : Tree.DROP_VIEW);
        }

        private void insert(int n) {
            step();
            need(INTO);
            named(n, Tree.INSERT);
            if (token == SELECT) {
                tree.put(n, Tree.B, query());
                return;
            }
            need(VALUES);
            level = 1;
            int last = tuple();
            tree.put(n, Tree.A, last);
            for (int i = 1; i < MOST_TUPLES && take(','); i++) {
                last = tree.link(last, tuple());
            }
        }

        private int tuple() {
            int n = tree.add(Tree.TUPLE, place);
            enter('(');
            tree.put(n, Tree.A, sums(MANY));
            tree.put(n, Tree.B, place);
            leave(')');
            return n;
        }

        /** Reads sums with commas between them; answers the first one. */
        private int sums(int most) {
            int first = sum();
            int last = first;
            for (int i = 1; i < most && take(','); i++) {
                last = tree.link(last, sum());
            }
            return first;
        }

        private void update(int n) {
            step();
            named(n, Tree.UPDATE);
            level = 1;
            need(SET);
            int last = set();
            tree.put(n, Tree.A, last);
            for (int i = 0; i < MANY && take(','); i++) {
                last = tree.link(last, set());
            }
            tree.put(n, Tree.B, where());
        }

        private int set() {
            int n = tree.add(Tree.SET, place);
            tree.putValue(n, tokenValue);
            need(NAME);
            need('=');
            tree.put(n, Tree.A, sum());
            return n;
        }

        private int where() {
            return take(WHERE) ? test() : 0;
        }

        // queries

        private int query() {
            int n = tree.add(Tree.QUERY, place);
            int depth = level;
            int kept = itemsOf;
            level = depth + 1;
            tree.put(n, Tree.OP, depth);
            int last = block(depth);
            tree.put(n, Tree.A, last);
            for (int i = 1; i < MOST_BLOCKS && (token == UNION || token == EXCEPT); i++) {
                int how = token;
                step();
                last = tree.link(last, block(depth));
                tree.put(last, Tree.OP, how == UNION ? 1 : 2);
            }
            if (take(ORDER)) {
                need(BY);
                tree.put(n, Tree.B, keys());
            }
            tree.put(n, Tree.C, NONE);
            if (take(LIMIT)) {
                tree.put(n, Tree.C, number());
                tree.put(n, Tree.D, take(OFFSET) ? number() : 0);
            }
            level = depth;
            itemsOf = kept;
            tree.put(n, Tree.E, tree.end());
            return n;
        }

        private int keys() {
            int first = 0;
            int last = 0;
            boolean isMore = true;
            for (int i = 1; i <= MOST_KEYS && isMore; i++) {
                int n = tree.add(Tree.KEY, place);
                tree.putValue(n, number());
                tree.put(n, Tree.A, take(DOWN) ? 1 : 0);
                first = i == 1 ? n : first;
                last = i == 1 ? n : tree.link(last, n);
                isMore = i < MOST_KEYS && take(',');
            }
            return first;
        }

        /** Reads a block; the node behind its own one is its head, which keeps the rest of it. */
        private int block(int depth) {
            int n = tree.add(Tree.BLOCK, place);
            int head = tree.add(Tree.HEAD, place);
            need(SELECT);
            tree.put(head, Tree.OP, depth);
            tree.put(head, Tree.D, take(DISTINCT) ? 1 : 0);
            tree.put(head, Tree.B, token == '*' ? place : NONE);
            if (!take('*')) {
                itemsOf = n;
                tree.put(n, Tree.A, items());
            }
            itemsOf = 0;
            tree.put(head, Tree.C, place);
            need(FROM);
            tree.put(n, Tree.B, sources());
            tree.put(n, Tree.C, where());
            if (take(GROUP)) {
                need(BY);
                int last = ref();
                tree.put(n, Tree.D, last);
                for (int i = 1; i < MOST_GROUPED && take(','); i++) {
                    last = tree.link(last, ref());
                }
            }
            if (take(HAVING)) {
                tree.put(head, Tree.A, test());
            }
            tree.put(n, Tree.E, tree.end());
            return n;
        }

        private int items() {
            int first = item();
            int last = first;
            for (int i = 1; i < MOST_ITEMS && take(','); i++) {
                last = tree.link(last, item());
            }
            return first;
        }

        private int item() {
            int n = tree.add(Tree.ITEM, place);
            tree.put(n, Tree.A, sum());
            tree.put(n, Tree.B, take(AS) ? nameNode() : 0);
            return n;
        }

        private int sources() {
            int first = source();
            int last = first;
            for (int i = 1; i < MOST_SOURCES && (token == ',' || token == JOIN || token == LEFT); i++) {
                int how = token;
                step();
                if (how == LEFT) {
                    need(JOIN);
                }
                last = tree.link(last, source());
                if (how != ',') {
                    need(ON);
                    tree.put(last, Tree.OP, how == JOIN ? 1 : 2);
                    tree.put(last, Tree.B, test());
                }
            }
            return first;
        }

        private int source() {
            int n = tree.add(Tree.SOURCE, place);
            tree.putValue(n, tokenValue);
            need(NAME);
            tree.put(n, Tree.A, take(AS) ? nameNode() : 0);
            return n;
        }

        // tests

        private int test() {
            int from = place;
            int first = all();
            if (token != OR) {
                return first;
            }
            int last = first;
            for (int i = 0; i < MANY && take(OR); i++) {
                last = tree.link(last, all());
            }
            int n = tree.add(Tree.OR, from);
            tree.put(n, Tree.A, first);
            return n;
        }

        private int all() {
            int from = place;
            int first = one();
            if (token != AND) {
                return first;
            }
            int last = first;
            for (int i = 0; i < MANY && take(AND); i++) {
                last = tree.link(last, one());
            }
            int n = tree.add(Tree.AND, from);
            tree.put(n, Tree.A, first);
            return n;
        }

        private int one() {
            int from = place;
            int inner = 0;
            int kind = 0;
            if (token == NOT) {
                kind = Tree.NOT;
                enter(NOT);
                inner = one();
                leave();
            } else if (token == '[') {
                kind = Tree.BRACKET;
                enter('[');
                inner = test();
                leave(']');
            } else if (token == EXISTS) {
                kind = Tree.EXISTS;
                step();
                enter('(');
                inner = query();
                leave(')');
            } else {
                return comparison();
            }
            int n = tree.add(kind, from);
            tree.put(n, Tree.A, inner);
            return n;
        }

        /** Reads a sum and what it is compared with; the nodes of both sides stand between D, E and the node. */
        private int comparison() {
            int from = place;
            int before = tree.end();
            int left = sum();
            int middle = tree.end();
            int kind = 0;
            int right = 0;
            int more = 0;
            if (token == '=' || token == '<' || token == '>' || token >= AT_MOST && token <= UNLIKE) {
                kind = Tree.COMPARE;
                more = token;
                step();
                right = sum();
            } else if (take(IS)) {
                kind = Tree.IS_NULL;
                more = take(NOT) ? 1 : 0;
                need(NULL_WORD);
            } else {
                return within(from, left);
            }
            int n = tree.add(kind, from);
            tree.put(n, Tree.A, left);
            tree.put(n, Tree.B, right);
            tree.put(n, Tree.C, more);
            tree.put(n, Tree.D, before);
            tree.put(n, Tree.E, middle);
            return n;
        }

        private int within(int from, int left) {
            int not = take(NOT) ? 1 : 0;
            int kind = 0;
            int second = 0;
            int third = not;
            if (take(IN)) {
                enter('(');
                kind = token == SELECT ? Tree.IN_QUERY : Tree.IN;
                second = token == SELECT ? query() : sums(MOST_VALUES);
                leave(')');
            } else {
                need(BETWEEN);
                kind = Tree.BETWEEN;
                second = sum();
                need(AND);
                third = sum();
            }
            int n = tree.add(kind, from);
            tree.put(n, Tree.A, left);
            tree.put(n, Tree.B, second);
            tree.put(n, Tree.C, third);
            tree.put(n, Tree.D, not);
            return n;
        }

        // sums

        private int sum() {
            int from = place;
            int first = term();
            if (token != '+' && token != '-') {
                return first;
            }
            int last = first;
            for (int i = 0; i < MANY && (token == '+' || token == '-'); i++) {
                int sign = token;
                step();
                last = tree.link(last, term());
                tree.put(last, Tree.OP, sign);
            }
            int n = tree.add(Tree.SUMS, from);
            tree.put(n, Tree.A, first);
            return n;
        }

        private int term() {
            int from = place;
            int first = unit();
            if (token != '*' && token != '/' && token != '%') {
                return first;
            }
            int last = first;
            for (int i = 0; i < MANY && (token == '*' || token == '/' || token == '%'); i++) {
                int sign = token;
                step();
                last = tree.link(last, unit());
                tree.put(last, Tree.OP, sign);
            }
            int n = tree.add(Tree.TERMS, from);
            tree.put(n, Tree.A, first);
            return n;
        }

        private int unit() {
            switch (token) {
                case NUMBER:
                    return constant(Tree.NUMBER);
                case QUOTED:
                    return constant(Tree.LETTERS);
                case NULL_WORD:
                    return constant(Tree.EMPTY);
                case NAME:
                    return ref();
                case '-':
                case '(':
                    return wrapped();
                case CASE:
                    return choice();
                case COALESCE:
                    return coalesce();
                case COUNT:
                case SUM:
                case MIN:
                case MAX:
                    return aggregate();
                default:
                    fail();
                    return 0;
            }
        }

        private int constant(int kind) {
            int n = tree.add(kind, place);
            tree.putValue(n, tokenValue);
            step();
            return n;
        }

        private int ref() {
            int n = tree.add(Tree.REF, place);
            int first = tree.add(Tree.NAME, place);
            tree.putValue(n, tokenValue);
            tree.putValue(first, tokenValue);
            need(NAME);
            if (take('.')) {
                tree.put(n, Tree.A, first);
                tree.putValue(n, tokenValue);
                need(NAME);
            }
            return n;
        }

        private int wrapped() {
            int from = place;
            int kind = token == '-' ? Tree.MINUS : Tree.PAREN;
            int inner;
            enter(token);
            if (kind == Tree.MINUS) {
                inner = unit();
                leave();
            } else {
                inner = sum();
                leave(')');
            }
            int n = tree.add(kind, from);
            tree.put(n, Tree.A, inner);
            return n;
        }

        private int choice() {
            int n = tree.add(Tree.CASE, place);
            enter(CASE);
            need(WHEN);
            tree.put(n, Tree.A, test());
            need(THEN);
            tree.put(n, Tree.B, sum());
            need(ELSE);
            tree.put(n, Tree.C, sum());
            leave(END_WORD);
            return n;
        }

        private int coalesce() {
            int n = tree.add(Tree.COALESCE, place);
            step();
            enter('(');
            tree.put(n, Tree.A, sum());
            need(',');
            tree.put(n, Tree.B, sum());
            leave(')');
            return n;
        }

        private int aggregate() {
            int n = tree.add(Tree.COUNT + token - COUNT, place);
            tree.put(n, Tree.E, level - 1);
            if (itemsOf != 0) {
                tree.put(itemsOf + 1, Tree.E, 1);
            }
            boolean isCount = token == COUNT;
            step();
            enter('(');
            if (isCount && take('*')) {
                tree.put(n, Tree.KIND, Tree.COUNT_ALL);
            } else {
                tree.put(n, Tree.B, take(DISTINCT) ? 1 : 0);
                tree.put(n, Tree.A, sum());
            }
            leave(')');
            return n;
        }
    }

    // ---- values

    /** A word with its first letter highest, so that words are ordered as their longs are. */
    private static long aligned(long word) {
        long moved = word;
        for (int i = 0; i < LONG_BYTES && moved != 0 && moved >>> 56 == 0; i++) {
            moved <<= 8;
        }
        return moved;
    }

    /** A word as it is told: its last letter lowest. */
    private static long unaligned(long word) {
        long moved = word;
        for (int i = 0; i < LONG_BYTES && moved != 0 && (moved & 255) == 0; i++) {
            moved >>>= 8;
        }
        return moved;
    }

    /** Rows of values: a row is its values, and behind these a bit for each one that is NULL. */
    private static final class Rows {
        private long[] cell = new long[0];
        private long[] spare = new long[0];
        private int[] order = new int[0];
        private int columns;
        private int width;
        private int count;

        void start(int howMany) {
            columns = Math.max(0, howMany);
            width = columns + (columns + 63 >> 6);
            count = 0;
        }

        int count() {
            return count;
        }

        int columns() {
            return columns;
        }

        boolean has(int row, int column) {
            return row >= 0 && row < count && column >= 0 && column < columns;
        }

        /** Puts a row of zeros behind the others; answers its number. */
        int add() {
            int needed = (count + 1) * width;
            if (needed > cell.length) {
                cell = Arrays.copyOf(cell, Math.max(needed, 2 * cell.length));
            }
            Arrays.fill(cell, count * width, needed, 0);
            count++;
            return count - 1;
        }

        /** Makes room for so many rows at once. */
        void reserve(int rows) {
            if (rows > 0 && rows * width > cell.length) {
                cell = Arrays.copyOf(cell, rows * width);
            }
        }

        /** Leaves the first so many rows. */
        void cut(int rows) {
            count = Math.max(0, Math.min(count, rows));
        }

        long at(int row, int column) {
            return row >= 0 && row < count && column >= 0 && column < columns ? cell[row * width + column] : 0;
        }

        boolean lacks(int row, int column) {
            return row < 0 || row >= count || column < 0 || column >= columns
                    || (cell[row * width + columns + (column >> 6)] >>> (column & 63) & 1) != 0;
        }

        void put(int row, int column, long value, boolean isNull) {
            if (row < 0 || row >= count || column < 0 || column >= columns) {
                return;
            }
            int mask = row * width + columns + (column >> 6);
            long bit = 1L << (column & 63);
            cell[row * width + column] = isNull ? 0 : value;
            cell[mask] = isNull ? cell[mask] | bit : cell[mask] & ~bit;
        }

        boolean isLike(int row, Rows other, int otherRow) {
            if (width != other.width || row < 0 || row >= count || otherRow < 0 || otherRow >= other.count) {
                return false;
            }
            for (int i = 0; i < width; i++) {
                if (cell[row * width + i] != other.cell[otherRow * width + i]) {
                    return false;
                }
            }
            return true;
        }

        /** Puts a row of other rows, of as many columns, in the place of one of these. */
        void copy(int row, Rows other, int otherRow) {
            if (width == other.width && row >= 0 && row < count && otherRow >= 0 && otherRow < other.count) {
                System.arraycopy(other.cell, otherRow * width, cell, row * width, width);
            }
        }

        /** Takes over rows of another one, and its columns. */
        void take(Rows other, int from, int howMany) {
            start(other.columns);
            reserve(howMany);
            for (int i = from; i < from + howMany; i++) {
                copy(add(), other, i);
            }
        }

        void append(Rows other) {
            for (int i = 0; i < other.count; i++) {
                copy(add(), other, i);
            }
        }

        /** The first row of the first so many that is like one of other rows; NONE without one. */
        int find(Rows other, int otherRow, int rows) {
            for (int i = 0; i < rows && i < count; i++) {
                if (isLike(i, other, otherRow)) {
                    return i;
                }
            }
            return NONE;
        }

        /** Leaves the rows that are not like an earlier one, nor like one of the others, if there are such. */
        void reduce(Rows others) {
            int kept = 0;
            for (int i = 0; i < count; i++) {
                boolean isOut = find(this, i, kept) != NONE
                        || others != null && others.find(this, i, others.count) != NONE;
                if (!isOut) {
                    copy(kept, this, i);
                    kept++;
                }
            }
            cut(kept);
        }

        /** Leaves out the first so many rows, then all but the first so many. */
        void slice(int offset, int limit) {
            int kept = 0;
            for (int i = Math.max(0, offset); i < count && kept < limit; i++) {
                copy(kept, this, i);
                kept++;
            }
            cut(kept);
        }

        /** Orders by keys, each twice its column, one more if it goes down; like rows stay in their order. */
        void sort(int[] key, int keys) {
            if (order.length < count) {
                order = new int[count];
            }
            for (int i = 0; i < count; i++) {
                int low = 0;
                int high = i;
                while (low < high) {
                    int middle = low + high >>> 1;
                    if (compare(order[middle], i, key, keys) <= 0) {
                        low = middle + 1;
                    } else {
                        high = middle;
                    }
                }
                System.arraycopy(order, low, order, low + 1, i - low);
                order[low] = i;
            }
            if (spare.length < cell.length) {
                spare = new long[cell.length];
            }
            for (int i = 0; i < count; i++) {
                System.arraycopy(cell, order[i] * width, spare, i * width, width);
            }
            long[] unordered = cell;
            cell = spare;
            spare = unordered;
        }

        int compare(int row, int other, int[] key, int keys) {
            for (int i = 0; i < keys && i < key.length; i++) {
                int found = compareAt(row, other, key[i] >> 1);
                if (found != 0) {
                    return (key[i] & 1) == 0 ? found : -found;
                }
            }
            return 0;
        }

        /** Compares the values of two rows in a column; NULL is less than all others. */
        int compareAt(int row, int other, int column) {
            if (row < 0 || row >= count || other < 0 || other >= count || column < 0 || column >= columns) {
                return 0;
            }
            int mask = columns + (column >> 6);
            boolean isNull = (cell[row * width + mask] >>> (column & 63) & 1) != 0;
            boolean isOtherNull = (cell[other * width + mask] >>> (column & 63) & 1) != 0;
            if (isNull || isOtherNull) {
                return isNull ? isOtherNull ? 0 : -1 : 1;
            }
            return Long.compare(cell[row * width + column], cell[other * width + column]);
        }

        /** Tells the words of a column as the face does. */
        void unalign(int column) {
            for (int i = 0; i < count; i++) {
                put(i, column, unaligned(at(i, column)), lacks(i, column));
            }
        }

        /** How many cells so many rows take, with the bits of what is NULL. */
        static int cells(int columns, int rows) {
            return Math.max(0, rows) * (columns + (columns + 63 >> 6));
        }

        /** Whether there are so many rows from one on, and a place for their cells in an array. */
        private boolean fits(int from, int howMany, long[] cells, int at) {
            return from >= 0 && howMany >= 0 && from + howMany <= count
                    && at >= 0 && at + howMany * width <= cells.length;
        }

        /** Puts the cells of some rows into an array, from a place on. */
        void write(int from, int howMany, long[] into, int at) {
            if (fits(from, howMany, into, at)) {
                System.arraycopy(cell, from * width, into, at, howMany * width);
            }
        }

        /** Whether an array has, from a place on, just the cells of some rows. */
        boolean isWritten(int from, int howMany, long[] in, int at) {
            if (!fits(from, howMany, in, at)) {
                return false;
            }
            for (int i = 0; i < howMany * width; i++) {
                if (cell[from * width + i] != in[at + i]) {
                    return false;
                }
            }
            return true;
        }
    }

    // ---- tables and indexes

    /** A table with its versions, or a view with its answer. */
    private static final class Table {
        static final int PRIMARY = 0, UNIQUE = 1, CHECK = 2, REFER = 3;
        static final int MOST_VERSIONS = 100;
        private static final int FIRST_SPREAD = 4;
        private static final int MADE = 0, ENDED = 1, MADE_AT = 2, ENDED_AT = 3, DEAD = 4, WIDE = 5;
        private static final int RULE_KIND = 0, RULE_TABLE = 1, RULE_TEST = 2, RULE_COLUMNS = 3, RULE_WIDE = 4;
        private static final int MOST_RULES = 6;

        boolean isThere;
        boolean isView;
        int number;
        long name;
        int columns;
        private long[] columnName = new long[MOST_COLUMNS];
        private int[] columnType = new int[MOST_COLUMNS];
        private final int[] spread = new int[MOST_COLUMNS];
        private int notNull;
        int key;
        int rules;
        private final int[] rule = new int[MOST_RULES * RULE_WIDE];
        /** The statement that made it, for its checks, or as a view for its query. */
        final Tree tree = new Tree();
        int query;
        final Rows versions = new Rows();
        private int[] info = new int[0];
        /** Its rows, as the statement that is done now sees them. */
        final Rows seen = new Rows();
        int[] seenPlace = new int[0];
        int seenAt;
        /** The number of the statement that made a view; the work of its query; how many blocks it asks. */
        int madeAt;
        long work;
        int blocks;

        void clear(int itsNumber, long itsName, boolean isAView) {
            number = itsNumber;
            name = itsName;
            isView = isAView;
            isThere = false;
            columns = 0;
            notNull = 0;
            key = NONE;
            rules = 0;
            seenAt = 0;
            query = 0;
        }

        /** Makes room for versions, of the columns that it has by now. */
        void open() {
            versions.start(columns);
            versions.reserve(MOST_VERSIONS);
            if (info.length == 0) {
                info = new int[MOST_VERSIONS * WIDE];
                seenPlace = new int[MOST_VERSIONS];
            }
            Arrays.fill(spread, FIRST_SPREAD);
            isThere = true;
        }

        void addColumn(long itsName, int itsType, boolean isNotNull) {
            if (columns >= columnName.length) {
                columnName = Arrays.copyOf(columnName, 2 * columns);
                columnType = Arrays.copyOf(columnType, 2 * columns);
            }
            columnName[columns] = itsName;
            columnType[columns] = itsType;
            if (isNotNull) {
                notNull |= 1 << columns;
            }
            columns++;
        }

        boolean hasColumn(int column) {
            return column >= 0 && column < columns;
        }

        long nameOf(int column) {
            return column >= 0 && column < columns && column < columnName.length ? columnName[column] : 0;
        }

        int kindOf(int column) {
            return column >= 0 && column < columns && column < columnType.length ? columnType[column] : 0;
        }

        boolean isNotNull(int column) {
            return column >= 0 && column < columns && (notNull >> column & 1) != 0;
        }

        int find(long itsName) {
            for (int c = 0; c < columns; c++) {
                if (nameOf(c) == itsName) {
                    return c;
                }
            }
            return NONE;
        }

        // rules

        void addRule(int kind, int other, int test, int columnBits) {
            if (rules < MOST_RULES) {
                rule[rules * RULE_WIDE + RULE_KIND] = kind;
                rule[rules * RULE_WIDE + RULE_TABLE] = other;
                rule[rules * RULE_WIDE + RULE_TEST] = test;
                rule[rules * RULE_WIDE + RULE_COLUMNS] = columnBits;
                rules++;
            }
        }

        private int ofRule(int one, int what) {
            return one >= 0 && one < rules && one < MOST_RULES ? rule[one * RULE_WIDE + what] : NONE;
        }

        int ruleKind(int one) {
            return ofRule(one, RULE_KIND);
        }

        int ruleTable(int one) {
            return ofRule(one, RULE_TABLE);
        }

        int ruleTest(int one) {
            return ofRule(one, RULE_TEST);
        }

        /** The columns of a rule as bits. */
        int ruleColumns(int one) {
            return Math.max(0, ofRule(one, RULE_COLUMNS));
        }

        /** The first column of a rule. */
        int ruleColumn(int one) {
            int bits = ruleColumns(one);
            for (int c = 0; c < MOST_COLUMNS; c++) {
                if ((bits >> c & 1) != 0) {
                    return c;
                }
            }
            return NONE;
        }

        boolean refersTo(int one, int other) {
            return ruleKind(one) == REFER && ruleTable(one) == other;
        }

        // spreads

        int spreadOf(int column) {
            return column >= 0 && column < columns && column < spread.length ? Math.max(1, spread[column]) : 1;
        }

        void measure() {
            for (int c = 0; c < columns && c < spread.length; c++) {
                int different = 0;
                for (int p = 0; p < count(); p++) {
                    different += isFirst(p, c) ? 1 : 0;
                }
                spread[c] = Math.max(1, different);
            }
        }

        /** Whether the value is no NULL, and no earlier version has it. */
        private boolean isFirst(int place, int column) {
            for (int p = 0; p < place; p++) {
                if (versions.compareAt(p, place, column) == 0) {
                    return false;
                }
            }
            return !versions.lacks(place, column);
        }

        // versions

        int count() {
            return versions.count;
        }

        private void put(int place, int what, int number) {
            if (place >= 0 && place < versions.count && place < info.length / WIDE) {
                info[place * WIDE + what] = number;
            }
        }

        int maker(int place) {
            return place >= 0 && place < versions.count && place < info.length / WIDE
                    ? info[place * WIDE + MADE] : NONE;
        }

        int ender(int place) {
            return place >= 0 && place < versions.count && place < info.length / WIDE
                    ? info[place * WIDE + ENDED] : NONE;
        }

        boolean isDead(int place) {
            return place >= 0 && place < versions.count && place < info.length / WIDE
                    && info[place * WIDE + DEAD] == 1;
        }

        long told(int place, int column) {
            long value = versions.at(place, column);
            return kindOf(column) == WORD ? unaligned(value) : value;
        }

        void make(Rows values, int row, int maker, int statement) {
            int place = versions.add();
            if (versions.count * WIDE > info.length) {
                info = Arrays.copyOf(info, 2 * versions.count * WIDE);
            }
            versions.copy(place, values, row);
            put(place, MADE, maker);
            put(place, ENDED, NONE);
            put(place, MADE_AT, statement);
            put(place, ENDED_AT, 0);
            put(place, DEAD, 0);
        }

        void end(int place, int ender, int statement) {
            put(place, ENDED, ender);
            put(place, ENDED_AT, statement);
        }

        /** Takes back what a transaction made and ended behind a statement. */
        void takeBack(int transaction, int statement) {
            for (int p = 0; p < versions.count && p < info.length / WIDE; p++) {
                int at = p * WIDE;
                if (info[at + MADE] == transaction && info[at + MADE_AT] > statement) {
                    info[at + DEAD] = 1;
                }
                if (info[at + ENDED] == transaction && info[at + ENDED_AT] > statement) {
                    info[at + ENDED] = NONE;
                }
            }
        }

        /** Moves a version to an earlier place. */
        void move(int to, int from) {
            if (to >= 0 && to < from && from < versions.count && from < info.length / WIDE) {
                versions.copy(to, versions, from);
                System.arraycopy(info, from * WIDE, info, to * WIDE, WIDE);
            }
        }

        boolean isAlikeIn(int bits, int place, int other) {
            for (int c = 0; c < columns; c++) {
                if ((bits >> c & 1) != 0 && versions.compareAt(place, other, c) != 0) {
                    return false;
                }
            }
            return true;
        }

        boolean lacksOneOf(int bits, int place) {
            for (int c = 0; c < columns; c++) {
                if ((bits >> c & 1) != 0 && versions.lacks(place, c)) {
                    return true;
                }
            }
            return false;
        }

        /** Whether a version has just this value, which is not NULL, in a column. */
        boolean holds(int place, int column, long value) {
            return !versions.lacks(place, column) && versions.at(place, column) == value;
        }
    }

    /** The entries of an index in their order, and the sizes of the leaves and nodes above, layer by layer. */
    private static final class Index {
        private static final int LAYERS = 8, WIDE = 64, MOST_ENTRIES = 100;
        private static final int MOST_IN_LEAF = 4, MOST_IN_NODE = 5, STAY = 3;

        boolean isThere;
        int number;
        long name;
        int table;
        private int columns;
        private final int[] column = new int[MOST_COLUMNS];
        private int count;
        private int height;
        private final int[] entry = new int[MOST_ENTRIES + 1];
        private final int[] parts = new int[LAYERS];
        private final int[] size = new int[LAYERS * WIDE];

        void clear(int itsNumber, long itsName, int itsTable) {
            isThere = true;
            number = itsNumber;
            name = itsName;
            table = itsTable;
            columns = 0;
            empty();
        }

        void addColumn(int one) {
            if (columns < MOST_COLUMNS) {
                column[columns] = one;
                columns++;
            }
        }

        int columns() {
            return columns;
        }

        int columnAt(int i) {
            return i >= 0 && i < columns && i < MOST_COLUMNS ? column[i] : NONE;
        }

        int count() {
            return count;
        }

        int height() {
            return height;
        }

        int placeAt(int i) {
            return i >= 0 && i < count && i < MOST_ENTRIES ? entry[i] : NONE;
        }

        int tell(int what) {
            switch (what) {
                case 0:
                    return table;
                case 1:
                    return columns;
                case 2:
                    return count;
                case 3:
                    return height;
                default:
                    return height == 0 ? 0 : parts[0];
            }
        }

        void empty() {
            count = 0;
            height = 0;
        }

        int compare(Rows rows, int place, int other) {
            for (int i = 0; i < columns; i++) {
                int found = rows.compareAt(place, other, columnAt(i));
                if (found != 0) {
                    return found;
                }
            }
            return Integer.compare(place, other);
        }

        /** Puts the entry of a version in. */
        void enter(Rows rows, int place) {
            if (count >= MOST_ENTRIES) {
                return;
            }
            int low = 0;
            int high = count;
            while (low < high) {
                int middle = low + high >>> 1;
                if (compare(rows, entry[middle], place) <= 0) {
                    low = middle + 1;
                } else {
                    high = middle;
                }
            }
            System.arraycopy(entry, low, entry, low + 1, count - low);
            entry[low] = place;
            count++;
            if (height == 0) {
                height = 1;
                parts[0] = 1;
                size[0] = 1;
            } else {
                grow(holder(0, low - 1));
            }
        }

        /** The part of a layer that holds the part, or entry, with this number below; the first one for none. */
        private int holder(int layer, int below) {
            int passed = 0;
            for (int i = 0; i < parts[layer]; i++) {
                passed += size[layer * WIDE + i];
                if (below < passed) {
                    return i;
                }
            }
            return Math.max(0, parts[layer] - 1);
        }

        /** A leaf has one more entry: it and the nodes above are parted where they are too large. */
        private void grow(int leaf) {
            int part = leaf;
            for (int layer = 0; layer + 1 < LAYERS && layer < height; layer++) {
                int at = layer * WIDE + part;
                int most = layer == 0 ? MOST_IN_LEAF : MOST_IN_NODE;
                size[at]++;
                if (size[at] <= most || parts[layer] + 1 >= WIDE) {
                    return;
                }
                System.arraycopy(size, at + 1, size, at + 2, parts[layer] - part - 1);
                size[at + 1] = size[at] - STAY;
                size[at] = STAY;
                parts[layer]++;
                if (layer + 1 == height) {
                    parts[height] = 1;
                    size[height * WIDE] = 2;
                    height++;
                    return;
                }
                part = holder(layer + 1, part);
            }
        }

        /** Whether it has just the entries of the versions, in their order, and leaves and nodes of right sizes. */
        boolean isRight(Table of) {
            if (of == null || count != of.count()) {
                return false;
            }
            long low = 0;
            long high = 0;
            for (int i = 0; i < count; i++) {
                int place = entry[i];
                if (place < 0 || place >= count || i > 0 && compare(of.versions, entry[i - 1], place) >= 0) {
                    return false;
                }
                low |= place < 64 ? 1L << place : 0;
                high |= place < 64 ? 0 : 1L << (place - 64);
            }
            return Long.bitCount(low) + Long.bitCount(high) == count && isWellParted();
        }

        private boolean isWellParted() {
            int below = count;
            for (int layer = 0; layer < height; layer++) {
                int sum = 0;
                for (int i = 0; i < parts[layer]; i++) {
                    int one = size[layer * WIDE + i];
                    int most = layer == 0 ? MOST_IN_LEAF : MOST_IN_NODE;
                    int least = layer == 0 ? height == 1 ? 1 : 2 : layer + 1 == height ? 2 : STAY;
                    if (one < least || one > most) {
                        return false;
                    }
                    sum += one;
                }
                if (sum != below) {
                    return false;
                }
                below = parts[layer];
            }
            return height == 0 ? count == 0 : below == 1;
        }
    }

    // ---- transactions

    /** Transactions, what they looked at and wrote, and the edges that come of it. */
    private static final class Ledger {
        static final int MOST = 200;
        static final int RANGE = 0, VALUES = 1, WRITE = 2;
        private static final int PHASE = 0, SERIAL = 1, SNAPSHOT = 2, STAMP = 3, BEGUN = 4, ENDED = 5, MARKS = 6;
        private static final int WORK = 7, WIDE = 8, WORDS = 4;
        private static final int OWNER = 0, KIND = 1, TABLE = 2, BITS = 3, NEXT = 4, TRACE_WIDE = 5;
        /** So many of the latest marks are looked through for a like one, which need not be kept twice. */
        private static final int LOOK_BACK = 512;
        private static final int MOST_ADDED = 10000;

        private final int[] info = new int[MOST * WIDE];
        private final long[] edge = new long[MOST * WORDS];
        private int count;
        private int clock;
        private int moments;
        /** The marks and written rows of transactions that can still get edges, in chains by owner. */
        private int[] trace = new int[0];
        private final Rows traced = new Rows();
        /** So many of them stand in chains; the others are of the statement that is done now. */
        private int chained;
        private final int[] firstMark = new int[MOST];
        private final int[] firstWrite = new int[MOST];
        private final int[] live = new int[MOST];
        private int lives;
        private final int[] told = new int[MOST];
        private int tolds;
        private final boolean[] isTold = new boolean[MOST];
        private boolean isStale;

        Ledger() {
            clear();
        }

        void clear() {
            count = 0;
            clock = 0;
            moments = 0;
            lives = 0;
            tolds = 0;
            isStale = false;
            chained = 0;
            traced.start(MOST_COLUMNS);
            Arrays.fill(edge, 0);
        }

        int count() {
            return count;
        }

        int time() {
            return clock;
        }

        boolean has(int one) {
            return one >= 0 && one < count && one < MOST;
        }

        int tell(int one, int what) {
            return one >= 0 && one < count && one < MOST && what >= 0 && what < WIDE ? info[one * WIDE + what] : NONE;
        }

        private void put(int one, int what, int number) {
            if (one >= 0 && one < count && one < MOST) {
                info[one * WIDE + what] = number;
            }
        }

        boolean isSerializable(int one) {
            return one >= 0 && one < count && one < MOST && info[one * WIDE + SERIAL] == 1;
        }

        int snapshot(int one) {
            return one >= 0 && one < count && one < MOST ? info[one * WIDE + SNAPSHOT] : clock;
        }

        boolean isOpen(int one) {
            return one >= 0 && one < count && one < MOST && info[one * WIDE + PHASE] == OPEN;
        }

        boolean hasCommitted(int one) {
            return one >= 0 && one < count && one < MOST && info[one * WIDE + PHASE] == COMMITTED;
        }

        boolean hasCommittedBy(int one, int time) {
            return one >= 0 && one < count && one < MOST && info[one * WIDE + PHASE] == COMMITTED
                    && info[one * WIDE + STAMP] <= time;
        }

        /** Begins a transaction; answers its number, NONE if there can be no more. */
        int begin(boolean isSerial) {
            if (count >= MOST) {
                return NONE;
            }
            int one = count;
            count++;
            put(one, PHASE, OPEN);
            put(one, SERIAL, isSerial ? 1 : 0);
            put(one, SNAPSHOT, clock);
            put(one, STAMP, NONE);
            put(one, BEGUN, moments);
            put(one, ENDED, NONE);
            put(one, MARKS, 0);
            put(one, WORK, 0);
            firstMark[one] = NONE;
            firstWrite[one] = NONE;
            moments++;
            return one;
        }

        void commit(int one, boolean hasChanged) {
            clock += hasChanged ? 1 : 0;
            put(one, PHASE, COMMITTED);
            put(one, STAMP, clock);
            put(one, ENDED, moments);
            moments++;
            isStale = true;
        }

        void rollBack(int one) {
            if (!has(one)) {
                return;
            }
            put(one, PHASE, ROLLED_BACK);
            for (int i = 0; i < MOST; i++) {
                edge[i * WORDS + (one >> 6)] &= ~(1L << (one & 63));
            }
            Arrays.fill(edge, one * WORDS, one * WORDS + WORDS, 0);
        }

        /** Whether the order tells a transaction, or will tell it if it commits. */
        boolean canBeTold(int one) {
            return isSerializable(one) && info[one * WIDE + PHASE] != ROLLED_BACK;
        }

        /** Adds the least work that a query of a transaction can have, whatever its tables hold. */
        void addWork(int one, int work) {
            put(one, WORK, Math.min(MOST_ADDED, tell(one, WORK) + work));
        }

        /** The least work of the queries of one transaction and those that the order tells now. */
        int leastWork(int one) {
            int work = 0;
            for (int i = 0; i < count; i++) {
                work += i == one || hasCommitted(i) && isSerializable(i) ? info[i * WIDE + WORK] : 0;
            }
            return work;
        }

        // what is seen

        boolean sees(Table table, int place, int one, int snapshot) {
            int maker = table.maker(place);
            if (table.isDead(place) || maker != one && !hasCommittedBy(maker, snapshot)) {
                return false;
            }
            int ender = table.ender(place);
            return ender == NONE || ender != one && !hasCommittedBy(ender, snapshot);
        }

        /** Whether a version that a transaction does not see, and did not end, can still come to stand. */
        boolean canStand(Table table, int place, int one) {
            int ender = table.ender(place);
            return !table.isDead(place) && (ender == NONE || ender != one && !hasCommitted(ender));
        }

        // marks and writes

        /** Finds the edges that come of the marks and writes of the statement that ends. */
        void findEdges() {
            int all = traced.count();
            int kept = chained;
            for (int i = chained; i < all; i++) {
                int one = ofTrace(i, OWNER);
                boolean isWrite = ofTrace(i, KIND) == WRITE;
                if (!has(one) || !isWrite && isKnown(i, kept)) {
                    continue;
                }
                move(kept, i);
                chain(kept);
                for (int l = 0; l < lives; l++) {
                    int other = live[l];
                    int from = isWrite ? other : one;
                    int to = isWrite ? one : other;
                    if (other != one && !leads(from, to) && isBefore(one, other) && isBefore(other, one)
                            && isHit(kept, isWrite ? firstMark[other] : firstWrite[other])) {
                        edge[from * WORDS + (to >> 6)] |= 1L << (to & 63);
                    }
                }
                kept++;
            }
            traced.cut(kept);
            chained = kept;
        }

        private int ofTrace(int i, int what) {
            return i >= 0 && i < trace.length / TRACE_WIDE ? trace[i * TRACE_WIDE + what] : NONE;
        }

        /**
         * Keeps a mark of a transaction, or a row that it wrote. The row tells the first and the last key of
         * a range, otherwise the values of the columns of these bits.
         */
        void trace(int one, int kind, int table, int bits, Rows rows, int row) {
            if (!isSerializable(one)) {
                return;
            }
            info[one * WIDE + MARKS] += kind == WRITE ? 0 : 1;
            int i = traced.add();
            int from = i * TRACE_WIDE;
            if (from + TRACE_WIDE > trace.length) {
                trace = Arrays.copyOf(trace, 2 * trace.length + 16 * TRACE_WIDE);
            }
            trace[from + OWNER] = one;
            trace[from + KIND] = kind;
            trace[from + TABLE] = table;
            trace[from + BITS] = bits;
            trace[from + NEXT] = NONE;
            for (int c = 0; c < MOST_COLUMNS; c++) {
                if (kind == RANGE ? c < 2 : (bits >> c & 1) != 0) {
                    traced.put(i, c, rows.at(row, c), rows.lacks(row, c));
                }
            }
        }

        private void move(int to, int from) {
            if (to != from) {
                traced.copy(to, traced, from);
                System.arraycopy(trace, from * TRACE_WIDE, trace, to * TRACE_WIDE, TRACE_WIDE);
            }
        }

        /** Whether a mark is like one of the latest that stand ahead of a place. */
        private boolean isKnown(int mark, int place) {
            for (int i = place - 1; i >= 0 && i >= place - LOOK_BACK; i--) {
                boolean isSame = true;
                for (int what = OWNER; what <= BITS; what++) {
                    isSame = isSame && ofTrace(i, what) == ofTrace(mark, what);
                }
                if (isSame && traced.isLike(i, traced, mark)) {
                    return true;
                }
            }
            return false;
        }

        /** Puts a trace at the head of the chain of its owner. */
        private void chain(int i) {
            int owner = ofTrace(i, OWNER);
            if (owner < 0 || owner >= count || owner >= MOST) {
                return;
            }
            if (firstMark[owner] == NONE && firstWrite[owner] == NONE && lives < MOST) {
                live[lives] = owner;
                lives++;
            }
            int[] first = ofTrace(i, KIND) == WRITE ? firstWrite : firstMark;
            trace[i * TRACE_WIDE + NEXT] = first[owner];
            first[owner] = i;
        }

        /** Whether a mark and a write hit, one of which is a trace and the other one stands in a chain. */
        private boolean isHit(int trace, int first) {
            boolean isWrite = ofTrace(trace, KIND) == WRITE;
            int i = first;
            while (i != NONE) {
                if (isWrite ? isRowOf(i, trace) : isRowOf(trace, i)) {
                    return true;
                }
                int next = ofTrace(i, NEXT);
                i = next < i ? next : NONE;
            }
            return false;
        }

        private boolean isRowOf(int mark, int write) {
            if (ofTrace(mark, TABLE) != ofTrace(write, TABLE)) {
                return false;
            }
            int bits = ofTrace(mark, BITS);
            if (ofTrace(mark, KIND) == RANGE) {
                long key = traced.at(write, bits);
                return !traced.lacks(write, bits) && key >= traced.at(mark, 0) && key <= traced.at(mark, 1);
            }
            for (int c = 0; c < MOST_COLUMNS; c++) {
                if ((bits >> c & 1) != 0 && (traced.lacks(write, c) || traced.at(write, c) != traced.at(mark, c))) {
                    return false;
                }
            }
            return true;
        }

        /** Forgets the traces of those that can get no more edges: concurrent to none that is open. */
        void sweep() {
            if (traced.count() == 0) {
                return;
            }
            int begun = moments;
            for (int i = 0; i < count; i++) {
                begun = isOpen(i) ? Math.min(begun, tell(i, BEGUN)) : begun;
            }
            for (int i = 0; i < lives; i++) {
                firstMark[live[i]] = NONE;
                firstWrite[live[i]] = NONE;
            }
            lives = 0;
            int kept = 0;
            int all = traced.count();
            for (int i = 0; i < all; i++) {
                int owner = ofTrace(i, OWNER);
                if (isOpen(owner) || hasCommitted(owner) && tell(owner, ENDED) > begun) {
                    move(kept, i);
                    chain(kept);
                    kept++;
                }
            }
            traced.cut(kept);
            chained = kept;
        }

        // edges

        /** Whether one began ahead of the commit of the other one, which was not rolled back. */
        private boolean isBefore(int one, int other) {
            return isOpen(other) || hasCommitted(other) && info[one * WIDE + BEGUN] < info[other * WIDE + ENDED];
        }

        boolean leads(int from, int to) {
            return from >= 0 && from < count && to >= 0 && to < count
                    && (edge[from * WORDS + (to >> 6)] >>> (to & 63) & 1) != 0;
        }

        int edgesFrom(int one) {
            int found = 0;
            for (int i = 0; i < WORDS && has(one); i++) {
                found += Long.bitCount(edge[one * WORDS + i]);
            }
            return found;
        }

        int edgesTo(int one) {
            int found = 0;
            for (int i = 0; i < count; i++) {
                found += leads(i, one) ? 1 : 0;
            }
            return found;
        }

        /** Whether some transaction has an edge to it and an edge from it. */
        boolean hasPivot() {
            for (int word = 0; word < WORDS; word++) {
                long reached = 0;
                for (int i = 0; i < count; i++) {
                    reached |= edge[i * WORDS + word];
                }
                for (int bit = 0; bit < 64 && reached != 0; bit++) {
                    if ((reached >>> bit & 1) != 0 && edgesFrom(word * 64 + bit) > 0) {
                        return true;
                    }
                }
            }
            return false;
        }

        // the told order

        int toldCount() {
            if (isStale) {
                isStale = false;
                tellAll();
            }
            return tolds;
        }

        int toldAt(int i) {
            return i >= 0 && i < toldCount() && i < MOST ? told[i] : NONE;
        }

        /** How many transactions there are for the order to tell. */
        int toTell() {
            int found = 0;
            for (int i = 0; i < count; i++) {
                found += hasCommitted(i) && isSerializable(i) ? 1 : 0;
            }
            return found;
        }

        private void tellAll() {
            int all = toTell();
            for (int i = 0; i < MOST; i++) {
                isTold[i] = false;
            }
            tolds = 0;
            for (int i = 0; i < all; i++) {
                int next = nextTold();
                if (next == NONE) {
                    return;
                }
                isTold[next] = true;
                told[tolds] = next;
                tolds++;
            }
        }

        private int nextTold() {
            for (int i = 0; i < count; i++) {
                if (!isTold[i] && hasCommitted(i) && isSerializable(i) && isFree(i)) {
                    return i;
                }
            }
            return NONE;
        }

        private boolean isFree(int one) {
            for (int i = 0; i < count; i++) {
                if (i != one && !isTold[i] && hasCommitted(i) && isSerializable(i)
                        && (info[i * WIDE + ENDED] < info[one * WIDE + BEGUN] || leads(i, one))) {
                    return false;
                }
            }
            return true;
        }
    }

    /** The tables, views and indexes that there are. */
    private static final class Store {
        static final int MOST_MADE = 12, MOST_VIEWS = 4, MOST_TABLES = 6;
        static final int MOST_INDEXES = 8, MOST_INDEXES_MADE = 16;
        /** Behind the tables stands the one that a statement would make, and then the views. */
        private static final int FIRST_VIEW = MOST_MADE + 1, PLACES = FIRST_VIEW + MOST_VIEWS;
        /** More blocks than the work of any statement lets be asked. */
        private static final int MOST_BLOCKS = 1000;

        private final Ledger ledger;
        private final Table[] table = new Table[PLACES];
        private final Index[] index = new Index[MOST_INDEXES_MADE];
        private int made;
        private int indexesMade;

        Store(Ledger itsLedger) {
            ledger = itsLedger;
        }

        void clear() {
            for (int i = 0; i < PLACES; i++) {
                if (table[i] != null) {
                    table[i].isThere = false;
                }
            }
            for (int i = 0; i < MOST_INDEXES_MADE; i++) {
                if (index[i] != null) {
                    index[i].isThere = false;
                }
            }
            made = 0;
            indexesMade = 0;
        }

        // what there is

        /** A table or view that is there, or null. */
        Table at(int number) {
            Table one = number >= 0 && number < PLACES ? table[number] : null;
            return one != null && one.isThere ? one : null;
        }

        Table tableAt(int number) {
            return number >= 0 && number < MOST_MADE ? at(number) : null;
        }

        Index indexAt(int number) {
            Index one = number >= 0 && number < MOST_INDEXES_MADE ? index[number] : null;
            return one != null && one.isThere ? one : null;
        }

        private int findBetween(long name, int first, int last) {
            for (int i = first; i < last && i < PLACES; i++) {
                if (table[i] != null && table[i].isThere && table[i].name == name) {
                    return i;
                }
            }
            return NONE;
        }

        int findTable(long name) {
            return findBetween(name, 0, MOST_MADE);
        }

        int findView(long name) {
            return findBetween(name, FIRST_VIEW, PLACES);
        }

        /** The number of a table or view. */
        int findSource(long name) {
            return findBetween(name, 0, PLACES);
        }

        int findIndex(long name) {
            for (int i = 0; i < MOST_INDEXES_MADE; i++) {
                Index one = indexAt(i);
                if (one != null && one.name == name) {
                    return i;
                }
            }
            return NONE;
        }

        int firstIndex(int itsTable, int column) {
            for (int i = 0; i < MOST_INDEXES_MADE; i++) {
                Index one = indexAt(i);
                if (one != null && one.table == itsTable && one.columnAt(0) == column) {
                    return i;
                }
            }
            return NONE;
        }

        private int countBetween(int first, int last) {
            int found = 0;
            for (int i = first; i < last; i++) {
                found += at(i) != null ? 1 : 0;
            }
            return found;
        }

        int tablesThere() {
            return countBetween(0, MOST_MADE);
        }

        private int viewsThere() {
            return countBetween(FIRST_VIEW, PLACES);
        }

        /** The indexes of a table, or of all for NONE. */
        private int indexesThere(int itsTable) {
            int found = 0;
            for (int i = 0; i < MOST_INDEXES_MADE; i++) {
                Index one = indexAt(i);
                found += one != null && (itsTable == NONE || one.table == itsTable) ? 1 : 0;
            }
            return found;
        }

        /** How many blocks some nodes ask, each once; those of the views among their sources too. */
        int blocks(Tree tree, int first, int last) {
            int found = 0;
            for (int n = first; n < last; n++) {
                Table one = tree.kind(n) == Tree.SOURCE ? at(tree.c(n) - 1) : null;
                found += tree.kind(n) == Tree.BLOCK ? 1 : one != null && one.isView ? one.blocks : 0;
            }
            return Math.min(found, MOST_BLOCKS);
        }

        /** The number of tables, views and indexes but those on keys, of which each table has one. */
        int namedThere() {
            return viewsThere() + indexesThere(NONE);
        }

        boolean hasRoomForTable() {
            return tablesThere() < MOST_TABLES && made < MOST_MADE && hasRoomForIndex();
        }

        boolean hasRoomForIndex() {
            return indexesThere(NONE) < MOST_INDEXES && indexesMade < MOST_INDEXES_MADE;
        }

        boolean hasRoomForView() {
            return viewsThere() < MOST_VIEWS;
        }

        /** Whether a view, or for a table a rule of another one, uses it. */
        boolean isUsed(int number) {
            for (int i = FIRST_VIEW; i < PLACES; i++) {
                Table one = at(i);
                for (int n = one == null ? 0 : one.tree.begin(); one != null && n < one.tree.end(); n++) {
                    if (one.tree.kind(n) == Tree.SOURCE && one.tree.c(n) == number + 1) {
                        return true;
                    }
                }
            }
            for (int i = 0; i < MOST_MADE; i++) {
                Table one = i == number ? null : at(i);
                for (int r = 0; one != null && r < one.rules; r++) {
                    if (one.refersTo(r, number)) {
                        return true;
                    }
                }
            }
            return false;
        }

        // making and dropping

        private Table fresh(int number, long name, boolean isView) {
            if (table[number] == null) {
                table[number] = new Table();
            }
            table[number].clear(number, name, isView);
            return table[number];
        }

        /** The table that a statement would make; it is not there yet. */
        Table draft(long name) {
            return fresh(Math.min(made, MOST_MADE), name, false);
        }

        void addTable(Tree tree, int statement) {
            Table one = made < MOST_MADE ? table[made] : null;
            if (one != null) {
                one.tree.copy(tree, statement, tree.e(statement));
                one.open();
                Index ofKey = freshIndex(0, made);
                if (ofKey != null) {
                    ofKey.addColumn(one.key);
                }
                made++;
            }
        }

        /** An index that is there from now on, without columns as yet, or null. */
        private Index freshIndex(long name, int itsTable) {
            if (indexesMade >= MOST_INDEXES_MADE) {
                return null;
            }
            if (index[indexesMade] == null) {
                index[indexesMade] = new Index();
            }
            Index one = index[indexesMade];
            one.clear(indexesMade, name, itsTable);
            indexesMade++;
            return one;
        }

        /** Makes an index on the columns that a list of names tells. */
        void addIndex(long name, int itsTable, Tree tree, int names) {
            Table of = at(itsTable);
            Index one = of == null ? null : freshIndex(name, itsTable);
            if (one == null) {
                return;
            }
            for (int n = names; n != 0; n = tree.after(n)) {
                one.addColumn(of.find(tree.value(n)));
            }
            fill(one);
        }

        /** A new view, without columns as yet, or null. */
        Table addView(long name, Tree tree, int statement) {
            for (int i = FIRST_VIEW; i < PLACES; i++) {
                if (at(i) == null) {
                    Table one = fresh(i, name, true);
                    one.tree.copy(tree, statement, tree.e(statement));
                    one.query = tree.a(statement);
                    one.isThere = true;
                    return one;
                }
            }
            return null;
        }

        void drop(int number) {
            Table one = at(number);
            if (one == null) {
                return;
            }
            one.isThere = false;
            for (int i = 0; i < MOST_INDEXES_MADE; i++) {
                if (indexAt(i) != null && index[i].table == number) {
                    index[i].isThere = false;
                }
            }
        }

        void dropIndex(int number) {
            Index one = indexAt(number);
            if (one != null) {
                one.isThere = false;
            }
        }

        // versions

        /** Puts the entries of all versions into an index anew, by places. */
        private void fill(Index one) {
            Table of = at(one.table);
            one.empty();
            for (int p = 0; of != null && p < of.count(); p++) {
                one.enter(of.versions, p);
            }
        }

        /** Keeps the rows of a table that a transaction sees, by keys, once for a statement. */
        void see(Table of, int transaction, int snapshot, int statement) {
            if (of.isView || of.seenAt == statement) {
                return;
            }
            of.seenAt = statement;
            if (of.seenPlace.length < of.count()) {
                of.seenPlace = new int[2 * of.count()];
            }
            int found = 0;
            for (int p = 0; p < of.count(); p++) {
                if (!ledger.sees(of, p, transaction, snapshot)) {
                    continue;
                }
                int at = found;
                while (at > 0 && of.versions.compareAt(p, of.seenPlace[at - 1], of.key) < 0) {
                    of.seenPlace[at] = of.seenPlace[at - 1];
                    at--;
                }
                of.seenPlace[at] = p;
                found++;
            }
            of.seen.start(of.columns);
            of.seen.reserve(found);
            for (int i = 0; i < found; i++) {
                of.seen.copy(of.seen.add(), of.versions, of.seenPlace[i]);
            }
        }

        void takeBack(int transaction, int statement) {
            for (int i = 0; i < MOST_MADE; i++) {
                Table one = at(i);
                if (one != null) {
                    one.takeBack(transaction, statement);
                }
            }
        }

        /** The cells of the record of a commit; 0 if the transaction made and ended nothing that counts. */
        int record(int transaction) {
            int cells = 0;
            for (int i = 0; i < MOST_MADE; i++) {
                Table one = at(i);
                for (int p = 0; one != null && p < one.count(); p++) {
                    cells += one.maker(p) == transaction && !one.isDead(p) ? 2 + one.columns : 0;
                    cells += one.ender(p) == transaction ? 2 : 0;
                }
            }
            return cells == 0 ? 0 : 4 + cells;
        }

        /** Takes out the versions that no transaction can see any more; answers how many they were. */
        int vacuum() {
            int least = ledger.time();
            for (int i = 0; i < ledger.count(); i++) {
                least = ledger.isOpen(i) ? Math.min(least, ledger.snapshot(i)) : least;
            }
            return leave(least, false);
        }

        /** Vacuums, if some table has more versions than a table may have. */
        void easeCrowd() {
            boolean isCrowded = false;
            for (int i = 0; i < MOST_MADE; i++) {
                isCrowded |= at(i) != null && table[i].count() > Table.MOST_VERSIONS;
            }
            if (isCrowded) {
                vacuum();
            }
        }

        /** Leaves the versions of transactions that committed; answers how many versions there are then. */
        int recover() {
            leave(ledger.time(), true);
            return versionsThere();
        }

        /** Takes out what is DEAD or was ended by a time, or was not committed; answers how many versions. */
        private int leave(int time, boolean isCommittedAlone) {
            int taken = 0;
            for (int i = 0; i < MOST_MADE; i++) {
                Table one = at(i);
                int kept = 0;
                for (int p = 0; one != null && p < one.count(); p++) {
                    boolean isOut = one.isDead(p) || ledger.hasCommittedBy(one.ender(p), time)
                            || isCommittedAlone && !ledger.hasCommitted(one.maker(p));
                    if (!isOut) {
                        one.move(kept, p);
                        kept++;
                    }
                }
                if (one != null) {
                    taken += one.count() - kept;
                    one.versions.cut(kept);
                }
            }
            for (int i = 0; i < MOST_INDEXES_MADE; i++) {
                if (indexAt(i) != null) {
                    fill(index[i]);
                }
            }
            return taken;
        }

        /** Sets the spreads of all columns; answers how many versions were looked at. */
        int measure() {
            for (int i = 0; i < MOST_MADE; i++) {
                Table one = at(i);
                if (one != null) {
                    one.measure();
                }
            }
            return versionsThere();
        }

        // what is told

        int versionsThere() {
            int found = 0;
            for (int i = 0; i < MOST_MADE; i++) {
                found += at(i) == null ? 0 : table[i].count();
            }
            return found;
        }

        /** The versions of a table that a transaction that began now would see. */
        private int seenOf(Table one) {
            int found = 0;
            for (int p = 0; p < one.count(); p++) {
                found += ledger.sees(one, p, NONE, ledger.time()) ? 1 : 0;
            }
            return found;
        }

        int versionsSeen() {
            int found = 0;
            for (int i = 0; i < MOST_MADE; i++) {
                found += at(i) == null ? 0 : seenOf(table[i]);
            }
            return found;
        }

        /** The cells that it takes to write all tables aside. */
        int cellsAside() {
            int cells = 6 + 12 * namedThere();
            for (int i = 0; i < MOST_MADE; i++) {
                cells += at(i) == null ? 0 : seenOf(table[i]) * (1 + table[i].columns);
            }
            return cells;
        }

        int tell(Table one, int what) {
            switch (what) {
                case 0:
                    return one.columns;
                case 1:
                    return one.rules;
                case 2:
                    return one.count();
                case 3:
                    return deadOf(one);
                case 4:
                    return seenOf(one);
                case 5:
                    return indexesThere(one.number);
                default:
                    return one.key;
            }
        }

        private int deadOf(Table one) {
            int found = 0;
            for (int p = 0; p < one.count(); p++) {
                found += one.isDead(p) ? 1 : 0;
            }
            return found;
        }

        long sum() {
            long sum = 31L * ledger.time() + ledger.count();
            for (int i = 0; i < MOST_MADE; i++) {
                Table one = at(i);
                for (int p = 0; one != null && p < one.count(); p++) {
                    sum = 31 * (31 * sum + one.maker(p)) + one.ender(p);
                    for (int c = 0; c < one.columns; c++) {
                        sum = 31 * sum + one.told(p, c);
                    }
                }
            }
            return sum;
        }

        /** Whether another store has the same tables, with the same rows seen now. */
        boolean isLike(Store other) {
            for (int i = 0; i < MOST_MADE; i++) {
                Table one = at(i);
                Table second = other.at(i);
                if (one == null || second == null) {
                    if (one != second) {
                        return false;
                    }
                } else if (!hasLikeRows(one, other, second)) {
                    return false;
                }
            }
            return true;
        }

        private boolean hasLikeRows(Table one, Store other, Table second) {
            seeNow(one);
            other.seeNow(second);
            if (one.seen.count() != second.seen.count()) {
                return false;
            }
            for (int r = 0; r < one.seen.count(); r++) {
                if (!one.seen.isLike(r, second.seen, r)) {
                    return false;
                }
            }
            return true;
        }

        private void seeNow(Table one) {
            one.seenAt = 0;
            see(one, NONE, ledger.time(), NONE);
        }

        int wrongIndexes() {
            int found = 0;
            for (int i = 0; i < MOST_INDEXES_MADE; i++) {
                found += indexAt(i) != null && !index[i].isRight(at(index[i].table)) ? 1 : 0;
            }
            return found;
        }
    }

    // ---- names and types

    /** Looks at the names and types of a statement (section 4), and tells each ref what it means. */
    private static final class Checker {
        private static final int ANY = 0;

        private final Store store;
        private Tree tree;
        private int least;
        private boolean isInCheck;
        // The sources around: of each depth, how many can be told, and how its block stands.
        private final Table[] scope = new Table[MOST_DEPTH * MOST_SOURCES];
        private final long[] scopeName = new long[MOST_DEPTH * MOST_SOURCES];
        private final int[] scopes = new int[MOST_DEPTH];
        private final int[] scopeBlock = new int[MOST_DEPTH];
        private final boolean[] isGrouped = new boolean[MOST_DEPTH];
        private final boolean[] isBare = new boolean[MOST_DEPTH];
        private final boolean[] isWithin = new boolean[MOST_DEPTH];

        Checker(Store itsStore) {
            store = itsStore;
        }

        /** The place of NAMES of a statement; NONE if its names and types are right. */
        int check(Tree itsTree, int statement) {
            tree = itsTree;
            least = NONE;
            isInCheck = false;
            startScope(0, 0);
            long name = tree.value(statement);
            switch (tree.kind(statement)) {
                case Tree.CREATE_TABLE:
                    createTable(statement);
                    break;
                case Tree.CREATE_INDEX:
                    createIndex(statement);
                    break;
                case Tree.CREATE_VIEW:
                    wrongIf(store.findSource(name) != NONE, tree.d(statement));
                    query(tree.a(statement), 0);
                    break;
                case Tree.DROP_TABLE:
                    wrongIf(store.findTable(name) == NONE, tree.d(statement));
                    break;
                case Tree.DROP_INDEX:
                    wrongIf(store.findIndex(name) == NONE, tree.d(statement));
                    break;
                case Tree.DROP_VIEW:
                    wrongIf(store.findView(name) == NONE, tree.d(statement));
                    break;
                case Tree.INSERT:
                case Tree.UPDATE:
                case Tree.DELETE:
                    change(statement);
                    break;
                case Tree.SELECT:
                case Tree.OPEN_CURSOR:
                case Tree.EXPLAIN:
                    query(tree.a(statement), 0);
                    break;
                default:
                    break;
            }
            return least;
        }

        private void wrong(int place) {
            least = least == NONE ? place : Math.min(least, place);
        }

        private void wrongIf(boolean isWrong, int place) {
            if (isWrong) {
                wrong(place);
            }
        }

        // scopes

        private void startScope(int depth, int block) {
            scopes[depth] = 0;
            scopeBlock[depth] = block;
            isGrouped[depth] = false;
            isBare[depth] = true;
            isWithin[depth] = false;
        }

        private void addSource(int depth, Table table, long name) {
            if (scopes[depth] < MOST_SOURCES) {
                scope[depth * MOST_SOURCES + scopes[depth]] = table;
                scopeName[depth * MOST_SOURCES + scopes[depth]] = name;
                scopes[depth]++;
            }
        }

        // statements

        private void createTable(int statement) {
            long name = tree.value(statement);
            wrongIf(store.findSource(name) != NONE, tree.d(statement));
            Table made = store.draft(name);
            for (int n = tree.a(statement); n != 0; n = tree.after(n)) {
                wrongIf(made.find(tree.value(n)) != NONE, tree.place(n));
                made.addColumn(tree.value(n), tree.a(n), tree.b(n) == 1);
            }
            addSource(0, made, name);
            int primaries = 0;
            for (int n = tree.b(statement); n != 0; n = tree.after(n)) {
                rule(made, n);
                if (tree.d(n) == Table.PRIMARY) {
                    made.key = made.find(tree.value(tree.a(n)));
                    primaries++;
                }
            }
            wrongIf(primaries != 1, tree.d(statement));
            for (int n = tree.b(statement); n != 0; n = tree.after(n)) {
                if (tree.d(n) == Table.REFER) {
                    reference(made, n);
                }
            }
        }

        private void rule(Table made, int rule) {
            int bits = 0;
            for (int n = tree.a(rule); n != 0; n = tree.after(n)) {
                int column = made.find(tree.value(n));
                wrongIf(column == NONE || (bits >> column & 1) != 0, tree.place(n));
                bits |= column == NONE ? 0 : 1 << column;
            }
            int kind = tree.d(rule);
            if (kind == Table.CHECK) {
                isInCheck = true;
                test(tree.b(rule), 0);
                isInCheck = false;
            }
            int other = NONE;
            if (kind == Table.REFER) {
                long name = tree.value(tree.c(rule));
                other = name == made.name ? made.number : store.findTable(name);
            }
            made.addRule(kind, other, tree.b(rule), bits);
        }

        /** Looks whether a table that is referred to is there, and has a key of the right type. */
        private void reference(Table made, int rule) {
            long name = tree.value(tree.c(rule));
            Table other = name == made.name ? made : store.tableAt(store.findTable(name));
            int column = made.find(tree.value(tree.a(rule)));
            wrongIf(other == null || column != NONE && other.key != NONE
                    && made.kindOf(column) != other.kindOf(other.key), tree.place(tree.c(rule)));
        }

        private void createIndex(int statement) {
            wrongIf(store.findIndex(tree.value(statement)) != NONE, tree.d(statement));
            Table of = store.tableAt(store.findTable(tree.value(tree.a(statement))));
            wrongIf(of == null, tree.place(tree.a(statement)));
            int bits = 0;
            for (int n = tree.b(statement); n != 0 && of != null; n = tree.after(n)) {
                int column = of.find(tree.value(n));
                wrongIf(column == NONE || (bits >> column & 1) != 0, tree.place(n));
                bits |= column == NONE ? 0 : 1 << column;
            }
        }

        /** An insert, update or delete; nothing of it stands ahead of the name of its table. */
        private void change(int statement) {
            int number = store.findTable(tree.value(statement));
            Table table = store.tableAt(number);
            if (table == null) {
                wrong(tree.d(statement));
                return;
            }
            tree.put(statement, Tree.C, number);
            if (tree.kind(statement) == Tree.INSERT) {
                for (int n = tree.a(statement); n != 0; n = tree.after(n)) {
                    tuple(table, n);
                }
                if (tree.b(statement) != 0) {
                    query(tree.b(statement), 0);
                    put(table, tree.b(statement));
                }
                return;
            }
            addSource(0, table, table.name);
            if (tree.kind(statement) == Tree.UPDATE) {
                sets(table, tree.a(statement));
            }
            test(tree.b(statement), 0);
        }

        private void tuple(Table table, int tuple) {
            int values = 0;
            for (int n = tree.a(tuple); n != 0; n = tree.after(n)) {
                int type = sum(n, 0);
                wrongIf(values >= table.columns || !fits(type, table.kindOf(values)), tree.place(n));
                values++;
            }
            wrongIf(values < table.columns, tree.b(tuple));
        }

        private void sets(Table table, int first) {
            int bits = 0;
            for (int n = first; n != 0; n = tree.after(n)) {
                int column = table.find(tree.value(n));
                wrongIf(column == NONE || (bits >> column & 1) != 0, tree.place(n));
                bits |= column == NONE ? 0 : 1 << column;
                tree.put(n, Tree.B, column);
                int type = sum(tree.a(n), 0);
                wrongIf(column != NONE && !fits(type, table.kindOf(column)), tree.place(tree.a(n)));
            }
        }

        /** Looks whether the columns of a query are those of the table into which it is put. */
        private void put(Table table, int query) {
            int block = tree.a(query);
            int star = tree.b(block + 1);
            int items = (int) tree.value(block);
            int item = tree.a(block);
            for (int i = 0; i < items || i == 0; i++) {
                boolean isWrong = i < items
                        && (i >= table.columns || !fits(typeOf(tree, query, i), table.kindOf(i)));
                wrongIf(isWrong, star != NONE ? star : tree.place(item));
                item = tree.after(item);
            }
            wrongIf(items < table.columns, tree.c(block + 1));
        }

        private static boolean fits(int type, int wanted) {
            return type == ANY || wanted == ANY || type == wanted;
        }

        // queries

        private void query(int query, int depth) {
            if (depth >= MOST_DEPTH) {
                return;
            }
            int first = tree.a(query);
            for (int b = first; b != 0; b = tree.after(b)) {
                block(b, depth);
            }
            int items = (int) tree.value(first);
            for (int b = tree.after(first); b != 0; b = tree.after(b)) {
                wrongIf(tree.value(b) != items, tree.place(b));
            }
            for (int i = 0; i < items; i++) {
                column(first, i);
            }
            for (int k = tree.b(query); k != 0; k = tree.after(k)) {
                wrongIf(tree.value(k) < 1 || tree.value(k) > items, tree.place(k));
            }
        }

        /** Looks whether the blocks from the first one on have like types in a column. */
        private void column(int first, int item) {
            int type = ANY;
            for (int b = first; b != 0; b = tree.after(b)) {
                int one = itemType(tree, b, item);
                wrongIf(!fits(one, type), tree.place(b));
                type = type == ANY ? one : type;
            }
        }

        private void block(int block, int depth) {
            int head = block + 1;
            startScope(depth, block);
            for (int s = tree.b(block); s != 0; s = tree.after(s)) {
                source(s, depth);
            }
            int sources = scopes[depth];
            isGrouped[depth] = tree.d(block) != 0 || tree.a(head) != 0 || tree.e(head) == 1;
            for (int g = tree.d(block); g != 0; g = tree.after(g)) {
                ref(g, depth);
            }
            isBare[depth] = false;
            items(block, depth);
            if (tree.a(head) != 0) {
                test(tree.a(head), depth);
            }
            isBare[depth] = true;
            scopes[depth] = 0;
            for (int s = tree.b(block); s != 0; s = tree.after(s)) {
                scopes[depth] = Math.min(sources, scopes[depth] + 1);
                test(tree.b(s), depth);
            }
            test(tree.c(block), depth);
        }

        private void source(int source, int depth) {
            int number = store.findSource(tree.value(source));
            int alias = tree.a(source);
            long name = alias != 0 ? tree.value(alias) : tree.value(source);
            wrongIf(number == NONE, tree.place(source));
            tree.put(source, Tree.C, number + 1);
            for (int i = 0; i < scopes[depth]; i++) {
                wrongIf(scopeName[depth * MOST_SOURCES + i] == name, tree.place(source));
            }
            addSource(depth, store.at(number), name);
        }

        /** Looks at the items of a block, whose number it keeps with the block. */
        private void items(int block, int depth) {
            int star = tree.b(block + 1);
            int items = 0;
            if (star != NONE) {
                wrongIf(isGrouped[depth], star);
                for (int i = 0; i < scopes[depth]; i++) {
                    Table one = scope[depth * MOST_SOURCES + i];
                    items += one == null ? 0 : one.columns;
                }
            }
            for (int n = tree.a(block); n != 0; n = tree.after(n)) {
                tree.put(n, Tree.TYPE, sum(tree.a(n), depth));
                items++;
            }
            tree.putValue(block, items);
        }

        /** The type of a column of the answer of a query; ANY if it has none. */
        int typeOf(Tree of, int query, int column) {
            for (int b = of.a(query); b != 0; b = of.after(b)) {
                int type = itemType(of, b, column);
                if (type != ANY) {
                    return type;
                }
            }
            return ANY;
        }

        private int itemType(Tree of, int block, int item) {
            int left = item;
            for (int n = of.a(block); n != 0; n = of.after(n)) {
                if (left == 0) {
                    return of.kept(n);
                }
                left--;
            }
            for (int s = of.b(block); s != 0 && of.b(block + 1) != NONE; s = of.after(s)) {
                Table one = store.at(of.c(s) - 1);
                if (one != null && left < one.columns) {
                    return one.kindOf(left);
                }
                left -= one == null ? 0 : one.columns;
            }
            return ANY;
        }

        /** The name of a column of a block's answer; 0 if it has none. */
        private long itemName(Tree of, int block, int item) {
            int left = item;
            for (int n = of.a(block); n != 0; n = of.after(n)) {
                if (left == 0) {
                    return of.b(n) != 0 ? of.value(of.b(n)) : refName(of, of.a(n));
                }
                left--;
            }
            for (int s = of.b(block); s != 0 && of.b(block + 1) != NONE; s = of.after(s)) {
                Table one = store.at(of.c(s) - 1);
                if (one != null && left < one.columns) {
                    return one.nameOf(left);
                }
                left -= one == null ? 0 : one.columns;
            }
            return 0;
        }

        /** The name that a sum tells if it is a ref, in brackets or not. */
        private static long refName(Tree of, int sum) {
            int inner = sum;
            for (int i = 0; i < MOST_DEPTH && of.kind(inner) == Tree.PAREN; i++) {
                inner = of.a(inner);
            }
            return of.kind(inner) == Tree.REF ? of.value(inner) : 0;
        }

        /** Gives a view the columns of its query. */
        void addColumns(Table view) {
            int block = view.tree.a(view.query);
            int items = (int) view.tree.value(block);
            for (int i = 0; i < items; i++) {
                int type = typeOf(view.tree, view.query, i);
                view.addColumn(itemName(view.tree, block, i), type == ANY ? INT : type, false);
            }
        }

        // tests

        private void test(int test, int depth) {
            int kind = tree.kind(test);
            switch (kind) {
                case Tree.OR:
                case Tree.AND:
                    for (int n = tree.a(test); n != 0; n = tree.after(n)) {
                        test(n, depth);
                    }
                    break;
                case Tree.NOT:
                case Tree.BRACKET:
                    test(tree.a(test), depth);
                    break;
                case Tree.EXISTS:
                    inner(tree.a(test), depth);
                    break;
                case Tree.COMPARE:
                case Tree.IS_NULL:
                case Tree.IN:
                case Tree.BETWEEN:
                    comparison(test, depth);
                    break;
                case Tree.IN_QUERY:
                    int type = sum(tree.a(test), depth);
                    int query = tree.b(test);
                    inner(query, depth);
                    long items = tree.value(tree.a(query));
                    wrongIf(items > 1 || items == 1 && !fits(typeOf(tree, query, 0), type), tree.place(query));
                    break;
                default:
                    break;
            }
        }

        /** A query within a test. */
        private void inner(int query, int depth) {
            if (isInCheck) {
                wrong(tree.place(query));
            } else {
                query(query, depth + 1);
            }
        }

        private void comparison(int test, int depth) {
            int type = sum(tree.a(test), depth);
            int n = tree.b(test);
            while (n != 0) {
                int one = sum(n, depth);
                wrongIf(!fits(one, type), tree.place(n));
                type = type == ANY ? one : type;
                n = tree.kind(test) == Tree.IN ? tree.after(n) : 0;
            }
            if (tree.kind(test) == Tree.BETWEEN) {
                wrongIf(!fits(sum(tree.c(test), depth), type), tree.place(tree.c(test)));
            }
        }

        // sums

        /** Looks at a sum; answers its type, ANY if all of its values are null. */
        private int sum(int n, int depth) {
            switch (tree.kind(n)) {
                case Tree.NUMBER:
                    return INT;
                case Tree.LETTERS:
                    return WORD;
                case Tree.REF:
                    return ref(n, depth);
                case Tree.PAREN:
                    return sum(tree.a(n), depth);
                case Tree.MINUS:
                case Tree.SUMS:
                case Tree.TERMS:
                    return reckoning(n, depth);
                case Tree.CASE:
                    test(tree.a(n), depth);
                    return either(tree.b(n), tree.c(n), depth);
                case Tree.COALESCE:
                    return either(tree.a(n), tree.b(n), depth);
                case Tree.COUNT_ALL:
                case Tree.COUNT:
                case Tree.SUM:
                case Tree.MIN:
                case Tree.MAX:
                    return aggregate(n, depth);
                default:
                    return ANY;
            }
        }

        private int reckoning(int sum, int depth) {
            int type = ANY;
            for (int n = tree.a(sum); n != 0; n = tree.after(n)) {
                int one = sum(n, depth);
                wrongIf(one == WORD, tree.place(n));
                type = one == ANY ? type : INT;
            }
            return type;
        }

        private int either(int first, int second, int depth) {
            int type = sum(first, depth);
            int other = sum(second, depth);
            wrongIf(!fits(other, type), tree.place(second));
            return type == ANY ? other : type;
        }

        private int aggregate(int n, int depth) {
            int kind = tree.kind(n);
            boolean isInner = isWithin[depth];
            wrongIf(isInner || isBare[depth], tree.place(n));
            isWithin[depth] = true;
            int type = sum(tree.a(n), depth);
            isWithin[depth] = isInner;
            if (kind == Tree.COUNT_ALL || kind == Tree.COUNT) {
                return INT;
            }
            if (kind == Tree.SUM) {
                wrongIf(type == WORD, tree.place(tree.a(n)));
                return type == ANY ? ANY : INT;
            }
            return type;
        }

        /** Finds the column that a ref tells, from its block outward; answers its type. */
        private int ref(int n, int depth) {
            for (int d = depth; d >= 0; d--) {
                int found = 0;
                for (int s = 0; s < scopes[d]; s++) {
                    found += columnsFor(n, d, s, found);
                }
                if (found > 0) {
                    wrongIf(found > 1 || isLoose(n, d), tree.place(n));
                    return tree.kept(n);
                }
            }
            wrong(tree.place(n));
            tree.put(n, Tree.B, NONE);
            tree.put(n, Tree.TYPE, ANY);
            return ANY;
        }

        /** How many columns of a source fit a ref; the first one of all is what the ref tells. */
        private int columnsFor(int n, int depth, int source, int before) {
            Table one = scope[depth * MOST_SOURCES + source];
            int alias = tree.a(n);
            if (one == null || alias != 0 && tree.value(alias) != scopeName[depth * MOST_SOURCES + source]) {
                return 0;
            }
            int found = 0;
            for (int c = 0; c < one.columns; c++) {
                if (one.nameOf(c) != tree.value(n)) {
                    continue;
                }
                if (before + found == 0) {
                    tree.put(n, Tree.B, depth);
                    tree.put(n, Tree.C, source);
                    tree.put(n, Tree.D, c);
                    tree.put(n, Tree.TYPE, one.kindOf(c));
                }
                found++;
            }
            return found;
        }

        /** Whether a ref to a grouped block stands outside of its aggregates, and is not grouped by. */
        private boolean isLoose(int n, int depth) {
            if (!isGrouped[depth] || isBare[depth] || isWithin[depth]) {
                return false;
            }
            for (int g = tree.d(scopeBlock[depth]); g != 0; g = tree.after(g)) {
                if (tree.b(g) == depth && tree.c(g) == tree.c(n) && tree.d(g) == tree.d(n)) {
                    return false;
                }
            }
            return true;
        }
    }

    // ---- queries

    /** Works out sums, tests and queries (sections 5 and 6) of a tree whose refs are told. */
    private static final class Asker {
        static final int FALSE = 0, TRUE = 1, UNKNOWN = 2;
        /** Behind the places of the rows of a block's sources, those of the values by which it is grouped. */
        private static final int GROUPED = MOST_SOURCES, MOST_GROUPED = 3, MOST_KEYS = 3;
        private static final long MOST_TOLD_WORK = 1000000;

        private final Store store;
        private Tree tree;
        private boolean isBlank;
        // Of each depth: the sources of the block that is asked now, and where in them it stands.
        private final Rows[] source = new Rows[MOST_DEPTH * MOST_SOURCES];
        private final int[] row = new int[MOST_DEPTH * MOST_SOURCES];
        private final int[] sources = new int[MOST_DEPTH];
        // Of each depth: the combinations that stay, and which of them are the group that is told now.
        private final Rows[] kept = new Rows[MOST_DEPTH];
        private final int[] groupFrom = new int[MOST_DEPTH];
        private final int[] groupTo = new int[MOST_DEPTH];
        private final Rows[] answer = new Rows[MOST_DEPTH];
        private final Rows[] part = new Rows[MOST_DEPTH];
        private final Rows[] pile = new Rows[MOST_DEPTH];
        private final int[] key = new int[MOST_KEYS];

        Asker(Store itsStore) {
            store = itsStore;
            for (int d = 0; d < MOST_DEPTH; d++) {
                kept[d] = new Rows();
                answer[d] = new Rows();
                part[d] = new Rows();
                pile[d] = new Rows();
            }
        }

        void use(Tree itsTree) {
            tree = itsTree;
        }

        /** Whether the sum that was worked out last is NULL. */
        boolean isBlank() {
            return isBlank;
        }

        /** Stands outside of queries at a row, as the only source. */
        void stand(Rows rows, int itsRow) {
            source[0] = rows;
            row[0] = itsRow;
        }

        // queries

        /** Asks a query; the rows are good until the next one of its depth is asked. */
        private Rows ask(int query) {
            int d = Math.max(0, Math.min(MOST_DEPTH - 1, tree.op(query)));
            Rows all = answer[d];
            int first = tree.a(query);
            block(first, d, all);
            for (int b = tree.after(first); b != 0; b = tree.after(b)) {
                block(b, d, part[d]);
                if (tree.op(b) == 1) {
                    all.append(part[d]);
                    all.reduce(null);
                } else {
                    all.reduce(part[d]);
                }
            }
            int keys = 0;
            for (int k = tree.b(query); k != 0 && keys < MOST_KEYS; k = tree.after(k)) {
                key[keys] = 2 * (int) (tree.value(k) - 1) + tree.a(k);
                keys++;
            }
            if (keys > 0) {
                all.sort(key, keys);
            }
            if (tree.c(query) != NONE) {
                all.slice(tree.d(query), tree.c(query));
            }
            return all;
        }

        private void block(int block, int d, Rows out) {
            out.start((int) tree.value(block));
            kept[d].start(GROUPED + MOST_GROUPED);
            sources[d] = 0;
            for (int s = tree.b(block); s != 0 && sources[d] < MOST_SOURCES; s = tree.after(s)) {
                Table one = store.at(tree.c(s) - 1);
                source[d * MOST_SOURCES + sources[d]] = one == null ? null : one.seen;
                row[d * MOST_SOURCES + sources[d]] = NONE;
                sources[d]++;
            }
            combine(block, tree.b(block), d, 0);
            int head = block + 1;
            if (tree.d(block) != 0 || tree.a(head) != 0 || tree.e(head) == 1) {
                groups(block, d, out);
                return;
            }
            for (int i = 0; i < kept[d].count(); i++) {
                place(d, i);
                emit(block, d, out);
            }
        }

        /** Goes through the rows of a source and of those behind it, and keeps the combinations that stay. */
        private void combine(int block, int s, int d, int k) {
            if (s == 0) {
                int where = tree.c(block);
                if (where == 0 || truth(where) == TRUE) {
                    keep(block, d);
                }
                return;
            }
            int at = d * MOST_SOURCES + Math.min(k, MOST_SOURCES - 1);
            int how = tree.op(s);
            boolean hasOne = false;
            int rows = source[at] == null ? 0 : source[at].count();
            for (int i = 0; i < rows; i++) {
                row[at] = i;
                if (how == 0 || truth(tree.b(s)) == TRUE) {
                    hasOne = true;
                    combine(block, tree.after(s), d, k + 1);
                }
            }
            row[at] = NONE;
            if (how == 2 && !hasOne) {
                combine(block, tree.after(s), d, k + 1);
            }
        }

        private void keep(int block, int d) {
            int r = kept[d].add();
            for (int k = 0; k < MOST_SOURCES; k++) {
                kept[d].put(r, k, k < sources[d] ? row[d * MOST_SOURCES + k] : NONE, false);
            }
            int column = GROUPED;
            for (int g = tree.d(block); g != 0; g = tree.after(g)) {
                long value = value(g);
                kept[d].put(r, column, value, isBlank);
                column++;
            }
        }

        /** Stands at a combination that was kept; at none beyond them. */
        private void place(int d, int i) {
            for (int k = 0; k < MOST_SOURCES; k++) {
                row[d * MOST_SOURCES + k] = i < kept[d].count() ? (int) kept[d].at(i, k) : NONE;
            }
        }

        private void groups(int block, int d, Rows out) {
            int keys = 0;
            for (int g = tree.d(block); g != 0 && keys < MOST_GROUPED; g = tree.after(g)) {
                key[keys] = 2 * (GROUPED + keys);
                keys++;
            }
            Rows all = kept[d];
            if (keys > 0) {
                all.sort(key, keys);
            }
            int having = tree.a(block + 1);
            int from = 0;
            do {
                int to = Math.min(from + 1, all.count());
                while (to < all.count() && isOneGroup(all, from, to, keys)) {
                    to++;
                }
                if (keys > 0 && from == to) {
                    return;
                }
                groupFrom[d] = from;
                groupTo[d] = to;
                place(d, from);
                if (having == 0 || truth(having) == TRUE) {
                    emit(block, d, out);
                }
                from = Math.max(to, from + 1);
            } while (from < all.count());
        }

        private static boolean isOneGroup(Rows all, int row, int other, int keys) {
            for (int i = 0; i < keys; i++) {
                if (all.compareAt(row, other, GROUPED + i) != 0) {
                    return false;
                }
            }
            return true;
        }

        /** Puts the row of the combination, or group, behind the answer. */
        private void emit(int block, int d, Rows out) {
            int r = out.add();
            int column = 0;
            for (int n = tree.a(block); n != 0; n = tree.after(n)) {
                long value = value(tree.a(n));
                out.put(r, column, value, isBlank);
                column++;
            }
            if (tree.b(block + 1) != NONE) {
                emitAll(d, out, r);
            }
            if (tree.d(block + 1) == 1 && out.find(out, r, r) != NONE) {
                out.cut(r);
            }
        }

        private void emitAll(int d, Rows out, int r) {
            int column = 0;
            for (int k = 0; k < sources[d]; k++) {
                Rows one = source[d * MOST_SOURCES + k];
                int at = row[d * MOST_SOURCES + k];
                for (int c = 0; one != null && c < one.columns(); c++) {
                    out.put(r, column, one.at(at, c), one.lacks(at, c));
                    column++;
                }
            }
        }

        // tests

        private static int negated(int truth) {
            return truth == UNKNOWN ? UNKNOWN : TRUE - truth;
        }

        private static int both(int truth, int other) {
            if (truth == FALSE || other == FALSE) {
                return FALSE;
            }
            return truth == UNKNOWN || other == UNKNOWN ? UNKNOWN : TRUE;
        }

        private int truth(int test) {
            switch (tree.kind(test)) {
                case Tree.OR:
                    return any(test);
                case Tree.AND:
                    return every(test);
                case Tree.NOT:
                    return negated(truth(tree.a(test)));
                case Tree.BRACKET:
                    return truth(tree.a(test));
                case Tree.EXISTS:
                    return ask(tree.a(test)).count() > 0 ? TRUE : FALSE;
                case Tree.COMPARE:
                    return compared(tree.a(test), tree.c(test), tree.b(test));
                case Tree.IS_NULL:
                    value(tree.a(test));
                    return isBlank == (tree.c(test) == 0) ? TRUE : FALSE;
                case Tree.IN:
                    return among(test);
                case Tree.IN_QUERY:
                    return amongAsked(test);
                case Tree.BETWEEN:
                    return between(test);
                default:
                    return UNKNOWN;
            }
        }

        private int any(int test) {
            int found = FALSE;
            for (int n = tree.a(test); n != 0 && found != TRUE; n = tree.after(n)) {
                found = negated(both(negated(found), negated(truth(n))));
            }
            return found;
        }

        private int every(int test) {
            int found = TRUE;
            for (int n = tree.a(test); n != 0 && found != FALSE; n = tree.after(n)) {
                found = both(found, truth(n));
            }
            return found;
        }

        private int compared(int left, int sign, int right) {
            long one = value(left);
            boolean isNull = isBlank;
            long other = value(right);
            return isNull || isBlank ? UNKNOWN : holds(Long.compare(one, other), sign) ? TRUE : FALSE;
        }

        private static boolean holds(int compared, int sign) {
            switch (sign) {
                case '=':
                    return compared == 0;
                case '<':
                    return compared < 0;
                case '>':
                    return compared > 0;
                case Parser.AT_MOST:
                    return compared <= 0;
                case Parser.AT_LEAST:
                    return compared >= 0;
                default:
                    return compared != 0;
            }
        }

        private int among(int test) {
            long one = value(tree.a(test));
            boolean isNull = isBlank;
            int found = FALSE;
            for (int n = tree.b(test); n != 0 && found != TRUE; n = tree.after(n)) {
                long other = value(n);
                found = isNull || isBlank ? UNKNOWN : one == other ? TRUE : found;
            }
            return tree.c(test) == 0 ? found : negated(found);
        }

        private int amongAsked(int test) {
            long one = value(tree.a(test));
            boolean isNull = isBlank;
            Rows asked = ask(tree.b(test));
            int found = FALSE;
            for (int i = 0; i < asked.count() && found != TRUE; i++) {
                boolean isUnknown = isNull || asked.lacks(i, 0);
                found = isUnknown ? UNKNOWN : one == asked.at(i, 0) ? TRUE : found;
            }
            return tree.c(test) == 0 ? found : negated(found);
        }

        private int between(int test) {
            long one = value(tree.a(test));
            boolean isNull = isBlank;
            long low = value(tree.b(test));
            int fromLow = isNull || isBlank ? UNKNOWN : one >= low ? TRUE : FALSE;
            long high = value(tree.c(test));
            int toHigh = isNull || isBlank ? UNKNOWN : one <= high ? TRUE : FALSE;
            int found = both(fromLow, toHigh);
            return tree.d(test) == 0 ? found : negated(found);
        }

        // sums

        /** Works out a sum; isBlank tells then whether it is NULL. */
        private long value(int n) {
            isBlank = false;
            switch (tree.kind(n)) {
                case Tree.NUMBER:
                case Tree.LETTERS:
                    return tree.value(n);
                case Tree.REF:
                    return refValue(n);
                case Tree.PAREN:
                    return value(tree.a(n));
                case Tree.MINUS:
                    return -value(tree.a(n));
                case Tree.SUMS:
                    return total(n);
                case Tree.TERMS:
                    return product(n);
                case Tree.CASE:
                    return value(truth(tree.a(n)) == TRUE ? tree.b(n) : tree.c(n));
                case Tree.COALESCE:
                    long first = value(tree.a(n));
                    return isBlank ? value(tree.b(n)) : first;
                case Tree.COUNT_ALL:
                case Tree.COUNT:
                case Tree.SUM:
                case Tree.MIN:
                case Tree.MAX:
                    return aggregate(n);
                default:
                    isBlank = true;
                    return 0;
            }
        }

        private long refValue(int n) {
            int at = tree.b(n) * MOST_SOURCES + tree.c(n);
            Rows rows = at >= 0 && at < source.length ? source[at] : null;
            if (rows == null || rows.lacks(row[at], tree.d(n))) {
                isBlank = true;
                return 0;
            }
            return rows.at(row[at], tree.d(n));
        }

        private long total(int sum) {
            long total = 0;
            boolean isNull = false;
            for (int n = tree.a(sum); n != 0; n = tree.after(n)) {
                long one = value(n);
                isNull |= isBlank;
                total = tree.op(n) == '-' ? total - one : total + one;
            }
            isBlank = isNull;
            return isNull ? 0 : total;
        }

        private long product(int term) {
            long product = value(tree.a(term));
            boolean isNull = isBlank;
            for (int n = tree.after(tree.a(term)); n != 0; n = tree.after(n)) {
                long one = value(n);
                isNull |= isBlank;
                int sign = tree.op(n);
                if (sign == '*') {
                    product *= one;
                } else if (one == 0) {
                    isNull = true;
                } else {
                    product = sign == '/' ? product / one : product % one;
                }
            }
            isBlank = isNull;
            return isNull ? 0 : product;
        }

        private long aggregate(int n) {
            int d = Math.max(0, Math.min(MOST_DEPTH - 1, tree.e(n)));
            int kind = tree.kind(n);
            int from = groupFrom[d];
            int to = groupTo[d];
            if (kind == Tree.COUNT_ALL) {
                return to - from;
            }
            pile[d].start(1);
            long found = 0;
            int values = 0;
            for (int i = from; i < to; i++) {
                place(d, i);
                long one = value(tree.a(n));
                if (!isBlank && (tree.b(n) == 0 || isNew(d, one))) {
                    found = joined(kind, found, one, values == 0);
                    values++;
                }
            }
            place(d, from);
            isBlank = kind != Tree.COUNT && values == 0;
            return kind == Tree.COUNT ? values : found;
        }

        private static long joined(int kind, long soFar, long one, boolean isFirst) {
            if (kind == Tree.SUM) {
                return soFar + one;
            }
            if (isFirst) {
                return one;
            }
            return kind == Tree.MIN ? Math.min(soFar, one) : Math.max(soFar, one);
        }

        /** Whether an aggregate has not had a value before, which it has then. */
        private boolean isNew(int d, long value) {
            for (int i = 0; i < pile[d].count(); i++) {
                if (pile[d].at(i, 0) == value) {
                    return false;
                }
            }
            pile[d].put(pile[d].add(), 0, value, false);
            return true;
        }

        // ranges

        /** Keeps in a row the first and the last key for which the parts of a test can be TRUE (section 9). */
        void range(int test, int depth, int itsSource, int column, Rows into) {
            into.start(MOST_COLUMNS);
            into.add();
            into.put(0, 0, LEAST, false);
            into.put(0, 1, GREATEST, false);
            for (int p = tree.firstPart(test); p != 0; p = tree.nextPart(test, p)) {
                if (tree.kind(p) != Tree.COMPARE || tree.c(p) == Parser.UNLIKE) {
                    continue;
                }
                if (isRef(tree.a(p), depth, itsSource, column) && isConstant(tree.e(p), p)) {
                    long one = value(tree.b(p));
                    narrow(into, tree.c(p), one, isBlank);
                } else if (isRef(tree.b(p), depth, itsSource, column) && isConstant(tree.d(p), tree.e(p))) {
                    long one = value(tree.a(p));
                    narrow(into, mirrored(tree.c(p)), one, isBlank);
                }
            }
        }

        private boolean isRef(int n, int depth, int itsSource, int column) {
            return tree.kind(n) == Tree.REF && tree.b(n) == depth && tree.c(n) == itsSource && tree.d(n) == column;
        }

        private boolean isConstant(int first, int last) {
            for (int n = first; n < last; n++) {
                if (tree.kind(n) == Tree.REF || tree.kind(n) == Tree.QUERY) {
                    return false;
                }
            }
            return true;
        }

        /** The sign that tells the same with its sides changed. */
        static int mirrored(int sign) {
            switch (sign) {
                case '<':
                    return '>';
                case '>':
                    return '<';
                case Parser.AT_MOST:
                    return Parser.AT_LEAST;
                case Parser.AT_LEAST:
                    return Parser.AT_MOST;
                default:
                    return sign;
            }
        }

        private static void narrow(Rows range, int sign, long one, boolean isNull) {
            boolean isEmpty = isNull || sign == '<' && one == LEAST || sign == '>' && one == GREATEST;
            long low = range.at(0, 0);
            long high = range.at(0, 1);
            if (sign == '=' || sign == Parser.AT_LEAST || sign == '>') {
                low = Math.max(low, sign == '>' ? one + 1 : one);
            }
            if (sign == '=' || sign == Parser.AT_MOST || sign == '<') {
                high = Math.min(high, sign == '<' ? one - 1 : one);
            }
            // A first key behind the last one stays so, whatever else narrows the range.
            range.put(0, 0, isEmpty ? GREATEST : low, false);
            range.put(0, 1, isEmpty ? LEAST : high, false);
        }

        // work

        /** The work of a query, as far as it goes up to a million. */
        private long work(int query) {
            long work = 0;
            for (int b = tree.a(query); b != 0; b = tree.after(b)) {
                long rows = 1;
                long views = 0;
                for (int s = tree.b(b); s != 0; s = tree.after(s)) {
                    Table one = store.at(tree.c(s) - 1);
                    rows *= one == null ? 1 : Math.max(1, one.seen.count());
                    views += one != null && one.isView ? one.work : 0;
                }
                work += rows * (1 + workWithin(b, tree.e(b), tree.op(b + 1) + 1)) + views;
            }
            return Math.min(work, MOST_TOLD_WORK);
        }

        /** The work of the queries of a depth among the nodes from first up to last. */
        private long workWithin(int first, int last, int depth) {
            long work = 0;
            for (int n = first; n < last; n++) {
                if (tree.kind(n) == Tree.QUERY && tree.op(n) == depth) {
                    work += work(n);
                }
            }
            return Math.min(work, MOST_TOLD_WORK);
        }
    }

    // ---- plans

    /** Plans blocks (section 11), and writes the plans to the output. */
    private static final class Planner {
        private static final int VIEW_COST = 20, VIEW_SIZE = 10;
        /** The orders of three sources; those of fewer are the ones that leave the others at the end. */
        private static final int[] ORDERS = {0, 1, 2, 0, 2, 1, 1, 0, 2, 1, 2, 0, 2, 0, 1, 2, 1, 0};
        private static final int ORDER_COUNT = 6;
        private static final int SOURCE = 0, COLUMN = 1, BOUND = 2, NEEDED = 3, PART_WIDE = 4;
        /** More than a text of 700 bytes can have; each part has at least three of them. */
        private static final int MOST_PARTS = 256;

        private final Store store;
        private Tree tree;
        private int block;
        private int depth;
        private int sources;
        private boolean hasLeft;
        private final int[] source = new int[MOST_SOURCES];
        private final int[] access = new int[MOST_SOURCES];
        // The equalities and bounds of the block: whose they are, and which sources they need.
        private final int[] part = new int[MOST_PARTS * PART_WIDE];
        private int parts;
        private long cost;
        private long size;
        private byte[] output = new byte[64];
        private int length;

        Planner(Store itsStore) {
            store = itsStore;
        }

        /** Writes the plans of the blocks of a statement; answers the length of the output. */
        int explain(Tree itsTree, int statement) {
            tree = itsTree;
            length = 0;
            for (int n = statement; n < tree.e(statement); n++) {
                if (tree.kind(n) == Tree.BLOCK) {
                    plan(n);
                }
            }
            return length;
        }

        int outputAt(int i) {
            return i >= 0 && i < length && i < output.length ? output[i] : NONE;
        }

        private void plan(int itsBlock) {
            block = itsBlock;
            depth = tree.op(block + 1);
            sources = 0;
            hasLeft = false;
            for (int s = tree.b(block); s != 0 && sources < MOST_SOURCES; s = tree.after(s)) {
                source[sources] = s;
                hasLeft |= tree.op(s) == 2;
                sources++;
            }
            parts = 0;
            gather(tree.c(block));
            for (int i = 0; i < sources; i++) {
                if (tree.op(source[i]) == 1) {
                    gather(tree.b(source[i]));
                }
            }
            int best = 0;
            long least = costOf(0);
            for (int i = 1; i < ORDER_COUNT; i++) {
                if (isPossible(i)) {
                    long one = costOf(i);
                    best = one < least ? i : best;
                    least = Math.min(least, one);
                }
            }
            costOf(best);
            for (int i = 0; i < sources; i++) {
                writeAccess(ORDERS[best * MOST_SOURCES + i]);
            }
            writeNumber(least);
            write(';');
        }

        private boolean isPossible(int order) {
            boolean isPossible = !hasLeft;
            for (int i = sources; i < MOST_SOURCES; i++) {
                isPossible &= ORDERS[order * MOST_SOURCES + i] == i;
            }
            return isPossible;
        }

        /** The cost of an order; access tells then the index of each source, NONE for a scan. */
        private long costOf(int order) {
            long sum = 0;
            long rows = 1;
            int placed = 0;
            for (int i = 0; i < sources; i++) {
                int s = ORDERS[order * MOST_SOURCES + i];
                choose(s, placed);
                sum += cost * rows;
                rows *= size;
                placed |= 1 << s;
            }
            return sum;
        }

        /** Chooses the access of a source behind those placed already; cost and size are told of it. */
        private void choose(int s, int placed) {
            Table of = store.at(tree.c(source[s]) - 1);
            access[s] = NONE;
            cost = VIEW_COST;
            size = VIEW_SIZE;
            if (of == null || of.isView) {
                return;
            }
            cost = of.count();
            size = of.count();
            for (int i = 0; i < Store.MOST_INDEXES_MADE && tree.op(source[s]) != 2; i++) {
                Index one = store.indexAt(i);
                if (one != null && one.table == of.number) {
                    tryIndex(one, of, s, placed);
                }
            }
        }

        private void tryIndex(Index one, Table of, int s, int placed) {
            int equal = 0;
            long rows = of.count();
            while (equal < one.columns() && hasPart(s, one.columnAt(equal), placed, false)) {
                rows = parted(rows, of.spreadOf(one.columnAt(equal)));
                equal++;
            }
            boolean hasBound = equal < one.columns() && hasPart(s, one.columnAt(equal), placed, true);
            rows = hasBound ? parted(rows, 2) : rows;
            if ((equal > 0 || hasBound) && one.height() + rows < cost) {
                cost = one.height() + rows;
                size = rows;
                access[s] = one.number;
            }
        }

        private static long parted(long rows, int by) {
            return by <= 0 ? rows : (rows + by - 1) / by;
        }

        /** Whether a column of a source has an equality, or a bound, among the parts of the block. */
        private boolean hasPart(int s, int column, int placed, boolean isBound) {
            for (int i = 0; i < parts; i++) {
                int at = i * PART_WIDE;
                if (part[at + SOURCE] == s && part[at + COLUMN] == column && part[at + BOUND] == 1 == isBound
                        && (part[at + NEEDED] & ~placed) == 0) {
                    return true;
                }
            }
            return false;
        }

        /** Gathers the equalities and bounds among the parts of a test. */
        private void gather(int test) {
            for (int p = tree.firstPart(test); p != 0; p = tree.nextPart(test, p)) {
                if (tree.kind(p) == Tree.COMPARE && tree.c(p) != Parser.UNLIKE) {
                    addPart(tree.a(p), tree.c(p), neededBy(tree.e(p), p));
                    addPart(tree.b(p), tree.c(p), neededBy(tree.d(p), tree.e(p)));
                }
            }
        }

        /** Adds a part if this side of it is a ref of the block alone, and the other side can be known. */
        private void addPart(int side, int sign, int needed) {
            boolean isBound = sign != '=';
            if (tree.kind(side) != Tree.REF || tree.b(side) != depth || needed == NONE || isBound && needed != 0
                    || parts >= MOST_PARTS) {
                return;
            }
            int at = parts * PART_WIDE;
            part[at + SOURCE] = tree.c(side);
            part[at + COLUMN] = tree.d(side);
            part[at + BOUND] = isBound ? 1 : 0;
            part[at + NEEDED] = needed;
            parts++;
        }

        /** The sources of the block that a sum tells, as bits; NONE if it has a query. */
        private int neededBy(int first, int last) {
            int needed = 0;
            for (int n = first; n < last; n++) {
                if (tree.kind(n) == Tree.QUERY) {
                    return NONE;
                }
                needed |= tree.kind(n) == Tree.REF && tree.b(n) == depth ? 1 << tree.c(n) : 0;
            }
            return needed;
        }

        // the output

        private void writeAccess(int s) {
            writeNumber(s);
            if (access[s] == NONE) {
                write('s');
                write('c');
                write('a');
                write('n');
            } else {
                write('.');
                writeNumber(access[s]);
            }
            write(',');
        }

        private void write(int one) {
            if (length >= output.length) {
                output = Arrays.copyOf(output, 2 * output.length);
            }
            output[length] = (byte) one;
            length++;
        }

        private void writeNumber(long number) {
            long place = 1;
            for (int i = 0; i < 18 && number / place >= 10; i++) {
                place *= 10;
            }
            while (place > 0) {
                write((int) (number / place % 10) + '0');
                place /= 10;
            }
        }
    }

    // ---- changes

    /** Makes and ends the versions of an insert, update or delete, and looks at the rules (section 8). */
    private static final class Changer {
        private static final int NOT_NULL = 9;

        private final Store store;
        private final Ledger ledger;
        private final Asker asker;
        private Table table;
        private int transaction;
        private int snapshot;
        /** The places of the versions to be ended, and the values of those to be made. */
        private int[] chosen = new int[Table.MOST_VERSIONS];
        private int chosens;
        private final Rows fresh = new Rows();
        /** The first version that the statement made; NONE while it has changed nothing. */
        private int firstMade;
        private int broken;
        private final Rows probe = new Rows();

        Changer(Store itsStore, Ledger itsLedger, Asker itsAsker) {
            store = itsStore;
            ledger = itsLedger;
            asker = itsAsker;
        }

        void start() {
            table = null;
            chosens = 0;
            firstMade = NONE;
            broken = NONE;
        }

        /** The number of the rule that did not hold. */
        int broken() {
            return broken;
        }

        /** Works out what a statement is to change; answers how many rows, NONE if it is too much. */
        int plan(Tree tree, int statement, Table itsTable, int mostVersions) {
            table = itsTable;
            fresh.start(table.columns);
            if (tree.kind(statement) != Tree.INSERT) {
                choose(tree, statement);
                return table.count() + fresh.count() > mostVersions ? NONE : chosens;
            }
            if (tree.b(statement) != 0) {
                Rows asked = asker.ask(tree.b(statement));
                if (asked.count() > Hall.MOST_ROWS) {
                    return NONE;
                }
                fresh.append(asked);
            }
            for (int n = tree.a(statement); n != 0; n = tree.after(n)) {
                int row = fresh.add();
                int column = 0;
                for (int v = tree.a(n); v != 0; v = tree.after(v)) {
                    long value = asker.value(v);
                    fresh.put(row, column, value, asker.isBlank());
                    column++;
                }
            }
            return table.count() + fresh.count() > mostVersions ? NONE : fresh.count();
        }

        private void choose(Tree tree, int statement) {
            int where = tree.b(statement);
            if (chosen.length < table.seen.count()) {
                chosen = new int[2 * table.seen.count()];
            }
            for (int i = 0; i < table.seen.count(); i++) {
                asker.stand(table.seen, i);
                if (where != 0 && asker.truth(where) != Asker.TRUE) {
                    continue;
                }
                chosen[chosens] = table.seenPlace[i];
                chosens++;
                if (tree.kind(statement) == Tree.UPDATE) {
                    int row = fresh.add();
                    fresh.copy(row, table.seen, i);
                    for (int n = tree.a(statement); n != 0; n = tree.after(n)) {
                        long value = asker.value(tree.a(n));
                        fresh.put(row, tree.b(n), value, asker.isBlank());
                    }
                }
            }
        }

        // marks of queries

        /** Gives the marks of the sources of all blocks of a statement, and of the table it changes. */
        void markSources(Tree tree, int statement, int itsTransaction) {
            transaction = itsTransaction;
            if (!ledger.isSerializable(transaction)) {
                return;
            }
            asker.use(tree);
            if (table != null && tree.kind(statement) != Tree.INSERT) {
                asker.range(tree.b(statement), 0, 0, table.key, probe);
                ledger.trace(transaction, Ledger.RANGE, table.number, table.key, probe, 0);
            }
            for (int n = statement; n < tree.e(statement); n++) {
                int k = 0;
                for (int s = tree.kind(n) == Tree.BLOCK ? tree.b(n) : 0; s != 0; s = tree.after(s)) {
                    Table one = store.at(tree.c(s) - 1);
                    if (one != null && one.isView) {
                        asker.range(0, 0, 0, 0, probe);
                        markView(one, 0);
                    } else if (one != null) {
                        int where = tree.op(s) == 2 ? 0 : tree.c(n);
                        asker.range(where, tree.op(n + 1), k, one.key, probe);
                        ledger.trace(transaction, Ledger.RANGE, one.number, one.key, probe, 0);
                    }
                    k++;
                }
            }
        }

        /** Marks all keys, which the probe tells, of the tables that a view uses; views use earlier ones alone. */
        private void markView(Table view, int depth) {
            for (int n = view.tree.begin(); n < view.tree.end() && depth < Store.MOST_VIEWS; n++) {
                Table one = view.tree.kind(n) == Tree.SOURCE ? store.at(view.tree.c(n) - 1) : null;
                if (one != null && one.isView) {
                    markView(one, depth + 1);
                } else if (one != null) {
                    ledger.trace(transaction, Ledger.RANGE, one.number, one.key, probe, 0);
                }
            }
        }

        // changes

        /** Ends and makes the versions as planned; whether none of those to be ended has an ender already. */
        boolean change(int itsTransaction, int statement) {
            transaction = itsTransaction;
            snapshot = ledger.snapshot(transaction);
            for (int i = 0; i < chosens; i++) {
                if (table.ender(chosen[i]) != NONE) {
                    return false;
                }
            }
            firstMade = table.count();
            for (int i = 0; i < chosens; i++) {
                table.end(chosen[i], transaction, statement);
            }
            for (int i = 0; i < fresh.count(); i++) {
                table.make(fresh, i, transaction, statement);
            }
            return true;
        }

        /** Looks at the rules of what was made and ended; answers 0, RULE or CONFLICT. */
        int lookAtRules() {
            int found = 0;
            for (int p = firstMade; p < table.count() && found == 0; p++) {
                if (hasForbiddenNull(table, p)) {
                    broken = 10 * table.number + NOT_NULL;
                    return RULE;
                }
                for (int r = 0; r < table.rules && found == 0; r++) {
                    found = lookAtRule(table, p, r);
                    broken = 10 * table.number + r;
                }
            }
            for (int i = 0; i < chosens && found == 0; i++) {
                found = lookAtEnded(chosen[i]);
            }
            return found;
        }

        /** Takes the changes of the statement back, as if they had never been. */
        void undo() {
            for (int i = 0; i < chosens && firstMade != NONE; i++) {
                table.end(chosen[i], NONE, 0);
            }
            if (firstMade != NONE) {
                table.versions.cut(firstMade);
            }
            firstMade = NONE;
        }

        /** Tells the ledger what was written. */
        void tellWrites() {
            int columns = (1 << table.columns) - 1;
            for (int i = 0; i < chosens && firstMade != NONE; i++) {
                ledger.trace(transaction, Ledger.WRITE, table.number, columns, table.versions, chosen[i]);
            }
            for (int p = firstMade; p != NONE && p < table.count(); p++) {
                ledger.trace(transaction, Ledger.WRITE, table.number, columns, table.versions, p);
            }
        }

        /** Puts the versions that were made into the indexes. */
        void keep() {
            for (int p = firstMade; p != NONE && p < table.count(); p++) {
                for (int i = 0; i < Store.MOST_INDEXES_MADE; i++) {
                    Index one = store.indexAt(i);
                    if (one != null && one.table == table.number) {
                        one.enter(table.versions, p);
                    }
                }
            }
            firstMade = NONE;
        }

        // rules

        private static boolean hasForbiddenNull(Table of, int place) {
            for (int c = 0; c < of.columns; c++) {
                if (of.isNotNull(c) && of.versions.lacks(place, c)) {
                    return true;
                }
            }
            return false;
        }

        private int lookAtRule(Table of, int place, int rule) {
            int kind = of.ruleKind(rule);
            if (kind == Table.CHECK) {
                asker.use(of.tree);
                asker.stand(of.versions, place);
                return asker.truth(of.ruleTest(rule)) == Asker.FALSE ? RULE : 0;
            }
            boolean isNull = of.lacksOneOf(of.ruleColumns(rule), place);
            if (isNull) {
                return kind == Table.PRIMARY ? RULE : 0;
            }
            return kind == Table.REFER ? lookForKey(of, place, rule) : lookForLike(of, place, rule);
        }

        /** Primary and unique: looks for another version with like values. */
        private int lookForLike(Table of, int place, int rule) {
            int bits = of.ruleColumns(rule);
            ledger.trace(transaction, Ledger.VALUES, of.number, bits, of.versions, place);
            int found = 0;
            for (int p = 0; p < of.count(); p++) {
                if (p == place || !of.isAlikeIn(bits, place, p)) {
                    continue;
                }
                if (ledger.sees(of, p, transaction, snapshot)) {
                    return RULE;
                }
                found = ledger.canStand(of, p, transaction) ? CONFLICT : found;
            }
            return found;
        }

        /** Refer: looks for the row of the other table with this key. */
        private int lookForKey(Table of, int place, int rule) {
            Table other = store.at(of.ruleTable(rule));
            if (other == null) {
                return 0;
            }
            long value = of.versions.at(place, of.ruleColumn(rule));
            probe.start(MOST_COLUMNS);
            probe.put(probe.add(), other.key, value, false);
            ledger.trace(transaction, Ledger.VALUES, other.number, 1 << other.key, probe, 0);
            for (int p = 0; p < other.count(); p++) {
                if (other.holds(p, other.key, value) && ledger.sees(other, p, transaction, snapshot)) {
                    return other.ender(p) == NONE ? 0 : CONFLICT;
                }
            }
            return RULE;
        }

        /** Looks whether rows refer to the key of a version that was ended, if no row has it now. */
        private int lookAtEnded(int place) {
            long value = table.versions.at(place, table.key);
            for (int p = 0; p < table.count(); p++) {
                if (table.holds(p, table.key, value) && ledger.sees(table, p, transaction, snapshot)) {
                    return 0;
                }
            }
            for (int i = 0; i < Store.MOST_MADE; i++) {
                Table one = store.at(i);
                for (int r = 0; one != null && r < one.rules; r++) {
                    int found = one.refersTo(r, table.number) ? lookForRefs(one, r, value) : 0;
                    if (found != 0) {
                        broken = 10 * one.number + r;
                        return found;
                    }
                }
            }
            return 0;
        }

        private int lookForRefs(Table one, int rule, long value) {
            int column = one.ruleColumn(rule);
            probe.start(MOST_COLUMNS);
            probe.put(probe.add(), column, value, false);
            ledger.trace(transaction, Ledger.VALUES, one.number, 1 << column, probe, 0);
            int found = 0;
            for (int p = 0; p < one.count(); p++) {
                if (!one.holds(p, column, value)) {
                    continue;
                }
                if (ledger.sees(one, p, transaction, snapshot)) {
                    return RULE;
                }
                found = ledger.canStand(one, p, transaction) ? CONFLICT : found;
            }
            return found;
        }

        /** Whether the rows of a table, as a transaction that began now would see them, keep its rules. */
        boolean keepsRules(Table of) {
            transaction = NONE;
            snapshot = ledger.time();
            for (int p = 0; p < of.count(); p++) {
                if (!ledger.sees(of, p, NONE, snapshot)) {
                    continue;
                }
                boolean isKept = !hasForbiddenNull(of, p);
                for (int r = 0; r < of.rules && isKept; r++) {
                    isKept = lookAtRule(of, p, r) != RULE;
                }
                if (!isKept) {
                    return false;
                }
            }
            return true;
        }
    }

    // ---- sessions and statements

    /** A session with its transaction, its saves and its cursors. */
    private static final class Session {
        static final int MOST_SAVES = 3, MOST_CURSORS = 2;

        int transaction = NONE;
        int saves;
        int cursors;
        private final long[] saveName = new long[MOST_SAVES];
        private final int[] saveAt = new int[MOST_SAVES];
        private final long[] cursorName = new long[MOST_CURSORS];
        private final Rows[] cursor = new Rows[MOST_CURSORS];
        private final int[] passed = new int[MOST_CURSORS];

        Session() {
            for (int i = 0; i < MOST_CURSORS; i++) {
                cursor[i] = new Rows();
            }
        }

        void end() {
            transaction = NONE;
            saves = 0;
            cursors = 0;
        }

        int findSave(long name) {
            for (int i = 0; i < saves && i < MOST_SAVES; i++) {
                if (saveName[i] == name) {
                    return i;
                }
            }
            return NONE;
        }

        int findCursor(long name) {
            for (int i = 0; i < cursors && i < MOST_CURSORS; i++) {
                if (cursorName[i] == name) {
                    return i;
                }
            }
            return NONE;
        }

        /** Remembers a statement under a name, as the latest save. */
        void save(long name, int statement) {
            int old = findSave(name);
            for (int i = old; old != NONE && i + 1 < saves && i + 1 < MOST_SAVES; i++) {
                saveName[i] = saveName[i + 1];
                saveAt[i] = saveAt[i + 1];
            }
            saves -= old == NONE ? 0 : 1;
            if (saves < MOST_SAVES) {
                saveName[saves] = name;
                saveAt[saves] = statement;
                saves++;
            }
        }

        /** Forgets the saves behind one; answers the statement that it remembers. */
        int goBack(long name) {
            int save = findSave(name);
            if (save == NONE) {
                return 0;
            }
            saves = save + 1;
            return saveAt[save];
        }

        void open(long name, Rows rows) {
            if (cursors < MOST_CURSORS) {
                cursorName[cursors] = name;
                cursor[cursors].take(rows, 0, rows.count());
                passed[cursors] = 0;
                cursors++;
            }
        }

        void close(long name) {
            int one = findCursor(name);
            if (one == NONE) {
                return;
            }
            cursors--;
            Rows closed = cursor[one];
            cursorName[one] = cursorName[cursors];
            cursor[one] = cursor[cursors];
            passed[one] = passed[cursors];
            cursor[cursors] = closed;
        }

        Rows rowsOf(int one) {
            return one >= 0 && one < cursors && one < MOST_CURSORS ? cursor[one] : null;
        }

        /** Passes over so many rows of a cursor, or what is left; answers the first one of them. */
        int pass(int one, int howMany) {
            if (rowsOf(one) == null) {
                return 0;
            }
            int from = passed[one];
            passed[one] = Math.min(cursor[one].count(), from + howMany);
            return from;
        }
    }

    /** Does statements for the sessions, each with an outcome. */
    private static final class Hall {
        static final int MOST_ROWS = 60;
        private static final int MOST_WORK = 600, SESSIONS = 4, SCHEMA_CELLS = 12;

        final Ledger ledger = new Ledger();
        final Store store = new Store(ledger);
        private final Checker checker = new Checker(store);
        private final Asker asker = new Asker(store);
        private final Planner planner = new Planner(store);
        private final Changer changer = new Changer(store, ledger, asker);
        private final Session[] session = new Session[SESSIONS];
        /** The number of the statement that is done now. */
        private int statement;
        /**
         * Whether a table may have more versions than the document lets: run anew, it can have those that
         * had been vacuumed, or were not made as yet, when the statement was done first.
         */
        boolean isRoomy;
        private int fuse;
        private boolean isFuseBehind;
        int written;
        boolean isFallen;
        // The outcome of the latest statement.
        int transaction;
        int refusal;
        int number;
        int place;
        int work;
        Rows answer;
        int answerFrom;

        Hall() {
            for (int i = 0; i < SESSIONS; i++) {
                session[i] = new Session();
            }
        }

        /** Makes the hall anew; its statements are numbered on, as what is kept for one tells its number. */
        void clear() {
            ledger.clear();
            store.clear();
            for (int i = 0; i < SESSIONS; i++) {
                session[i].end();
            }
            fuse = 0;
            written = 0;
            isFallen = false;
        }

        int broken() {
            return refusal == RULE ? changer.broken() : NONE;
        }

        Session sessionAt(int i) {
            return i >= 0 && i < SESSIONS ? session[i] : null;
        }

        int outputAt(int i) {
            return planner.outputAt(i);
        }

        boolean isBusy() {
            for (int i = 0; i < SESSIONS; i++) {
                if (session[i].transaction != NONE) {
                    return true;
                }
            }
            return false;
        }

        // statements

        /** Does a statement of a tree. */
        void perform(Tree tree, int n) {
            Session own = session[tree.op(n) & SESSIONS - 1];
            start(tree, n, own);
            if (refusal == 0) {
                int wrong = checker.check(tree, n);
                refusal = wrong != NONE ? NAMES : isOutOfState(tree, n, own) ? STATE
                        : hasRoom(tree.kind(n), own) ? 0 : FULL;
                place = wrong != NONE ? wrong : place;
            }
            switch (refusal == 0 ? tree.kind(n) : 0) {
                case 0:
                    break;
                case Tree.INSERT:
                case Tree.UPDATE:
                case Tree.DELETE:
                    change(tree, n, own);
                    break;
                case Tree.SELECT:
                case Tree.OPEN_CURSOR:
                    query(tree, n, own);
                    break;
                case Tree.CREATE_TABLE:
                case Tree.CREATE_INDEX:
                case Tree.CREATE_VIEW:
                case Tree.DROP_TABLE:
                case Tree.DROP_INDEX:
                case Tree.DROP_VIEW:
                    define(tree, n);
                    break;
                case Tree.EXPLAIN:
                    number = planner.explain(tree, n);
                    break;
                case Tree.VACUUM:
                    number = store.vacuum();
                    break;
                case Tree.ANALYZE:
                    number = store.measure();
                    break;
                default:
                    control(tree, n, own);
            }
            ledger.sweep();
            if (refusal != 0) {
                number = 0;
                answer = null;
            }
        }

        private void start(Tree tree, int n, Session own) {
            statement++;
            changer.start();
            number = 0;
            work = 0;
            answer = null;
            answerFrom = 0;
            place = tree.place(n);
            // Those from explain on are no statements of a transaction.
            transaction = tree.kind(n) < Tree.EXPLAIN ? own.transaction : NONE;
            refusal = isFallen ? POWER : 0;
        }

        private boolean isOutOfState(Tree tree, int n, Session own) {
            long name = tree.value(n);
            boolean isOpen = own.transaction != NONE;
            switch (tree.kind(n)) {
                case Tree.CREATE_TABLE:
                case Tree.CREATE_INDEX:
                case Tree.CREATE_VIEW:
                case Tree.DROP_INDEX:
                    return isBusy();
                case Tree.DROP_TABLE:
                case Tree.DROP_VIEW:
                    return isBusy() || store.isUsed(store.findSource(name));
                case Tree.BEGIN:
                    return isOpen;
                case Tree.COMMIT:
                case Tree.ROLLBACK:
                    return !isOpen;
                case Tree.ROLLBACK_TO:
                    return !isOpen || own.findSave(name) == NONE;
                case Tree.SAVE:
                    return !isOpen || own.findSave(name) == NONE && own.saves == Session.MOST_SAVES;
                case Tree.OPEN_CURSOR:
                    return !isOpen || own.findCursor(name) != NONE || own.cursors == Session.MOST_CURSORS;
                case Tree.FETCH:
                case Tree.CLOSE:
                    return !isOpen || own.findCursor(name) == NONE;
                default:
                    return false;
            }
        }

        /** Whether there is room for what a statement would begin and make. */
        private boolean hasRoom(int kind, Session own) {
            boolean hasRoom = true;
            if (kind == Tree.CREATE_TABLE) {
                hasRoom = store.hasRoomForTable();
            } else if (kind == Tree.CREATE_INDEX) {
                hasRoom = store.hasRoomForIndex();
            } else if (kind == Tree.CREATE_VIEW) {
                hasRoom = store.hasRoomForView();
            }
            boolean begins = kind <= Tree.BEGIN && own.transaction == NONE;
            return hasRoom && (!begins || ledger.count() < Ledger.MOST);
        }

        private void control(Tree tree, int n, Session own) {
            long name = tree.value(n);
            int one = own.transaction;
            switch (tree.kind(n)) {
                case Tree.BEGIN:
                    own.transaction = ledger.begin(tree.a(n) == 0);
                    transaction = own.transaction;
                    break;
                case Tree.COMMIT:
                    if (commit(one, store.record(one))) {
                        own.end();
                    }
                    break;
                case Tree.ROLLBACK:
                    rollBack(one);
                    own.end();
                    break;
                case Tree.ROLLBACK_TO:
                    store.takeBack(one, own.goBack(name));
                    break;
                case Tree.SAVE:
                    own.save(name, statement);
                    break;
                case Tree.FETCH:
                    int cursor = own.findCursor(name);
                    answer = own.rowsOf(cursor);
                    if (answer != null) {
                        answerFrom = own.pass(cursor, tree.a(n));
                        number = Math.min(answer.count() - answerFrom, tree.a(n));
                    }
                    break;
                default:
                    own.close(name);
            }
        }

        /** A create or drop, which is a transaction of its own. */
        private void define(Tree tree, int n) {
            transaction = ledger.begin(true);
            if (!commit(transaction, SCHEMA_CELLS)) {
                return;
            }
            long name = tree.value(n);
            switch (tree.kind(n)) {
                case Tree.CREATE_TABLE:
                    store.addTable(tree, n);
                    break;
                case Tree.CREATE_INDEX:
                    store.addIndex(name, store.findTable(tree.value(tree.a(n))), tree, tree.b(n));
                    break;
                case Tree.CREATE_VIEW:
                    Table view = store.addView(name, tree, n);
                    if (view != null) {
                        view.madeAt = statement;
                        view.blocks = store.blocks(tree, n, tree.e(n));
                        checker.addColumns(view);
                    }
                    break;
                case Tree.DROP_INDEX:
                    store.dropIndex(store.findIndex(name));
                    break;
                default:
                    store.drop(store.findSource(name));
            }
        }

        // queries and changes

        /** Readies the rows of the tables and views that a statement uses; whether it has not too much work. */
        private boolean ready(Tree tree, int n, int one) {
            int snapshot = ledger.snapshot(one);
            int views = see(tree, n, tree.e(n), one, snapshot);
            boolean isSmall = true;
            // The latest views first, as a view uses earlier ones alone; then the earliest first.
            for (Table of = latestView(views, LATEST); of != null; of = latestView(views, of.madeAt)) {
                views |= see(of.tree, of.tree.begin(), of.tree.end(), one, snapshot);
            }
            for (Table of = earliestView(views, 0); of != null; of = earliestView(views, of.madeAt)) {
                asker.use(of.tree);
                of.work = asker.work(of.query);
                if (of.work > MOST_WORK) {
                    work = MOST_WORK + 1;
                    return false;
                }
                Rows rows = asker.ask(of.query);
                of.seen.take(rows, 0, rows.count());
                isSmall &= rows.count() <= MOST_ROWS;
            }
            asker.use(tree);
            work = (int) workOf(tree, n);
            return isSmall && work <= MOST_WORK;
        }

        /** Keeps what the sources among some nodes show; answers the views among them as bits. */
        private int see(Tree tree, int first, int last, int one, int snapshot) {
            int views = 0;
            for (int n = first; n < last; n++) {
                Table of = tree.kind(n) == Tree.SOURCE ? store.at(tree.c(n) - 1) : null;
                if (of != null && of.isView) {
                    views |= 1 << of.number;
                } else if (of != null) {
                    store.see(of, one, snapshot, statement);
                }
            }
            return views;
        }

        /** The latest one of some views that was made ahead of a statement, or null. */
        private Table latestView(int views, int before) {
            Table found = null;
            for (int i = 0; i < 32; i++) {
                Table one = (views >>> i & 1) != 0 ? store.at(i) : null;
                if (one != null && one.madeAt < before && (found == null || one.madeAt > found.madeAt)) {
                    found = one;
                }
            }
            return found;
        }

        /** The earliest one of some views that was made behind a statement, or null. */
        private Table earliestView(int views, int behind) {
            Table found = null;
            for (int i = 0; i < 32; i++) {
                Table one = (views >>> i & 1) != 0 ? store.at(i) : null;
                if (one != null && one.madeAt > behind && (found == null || one.madeAt < found.madeAt)) {
                    found = one;
                }
            }
            return found;
        }

        private long workOf(Tree tree, int n) {
            int kind = tree.kind(n);
            int query = kind == Tree.INSERT ? tree.b(n) : tree.a(n);
            if (kind == Tree.SELECT || kind == Tree.OPEN_CURSOR || kind == Tree.INSERT && query != 0) {
                return asker.work(query);
            }
            long within = asker.workWithin(n, tree.e(n), 1);
            Table of = store.tableAt(tree.c(n));
            return kind == Tree.INSERT || of == null ? within : Math.max(1, of.seen.count()) * (1 + within);
        }

        private void query(Tree tree, int n, Session own) {
            int one = own.transaction;
            if (!ready(tree, n, one)) {
                refusal = FULL;
                return;
            }
            Rows rows = asker.ask(tree.a(n));
            if (rows.count() > MOST_ROWS) {
                refusal = FULL;
                return;
            }
            for (int c = 0; c < rows.columns(); c++) {
                if (checker.typeOf(tree, tree.a(n), c) == WORD) {
                    rows.unalign(c);
                }
            }
            boolean isOwn = one == NONE;
            transaction = isOwn ? ledger.begin(true) : one;
            ledger.addWork(transaction, store.blocks(tree, n, tree.e(n)));
            changer.markSources(tree, n, transaction);
            settle(own, isOwn, 0);
            if (refusal == 0 && tree.kind(n) == Tree.SELECT) {
                answer = rows;
                number = rows.count();
            } else if (refusal == 0) {
                own.open(tree.value(n), rows);
            }
        }

        private void change(Tree tree, int n, Session own) {
            int one = own.transaction;
            Table of = store.tableAt(tree.c(n));
            if (of == null) {
                return;
            }
            store.see(of, one, ledger.snapshot(one), statement);
            int most = isRoomy ? LATEST : Table.MOST_VERSIONS;
            int changed = ready(tree, n, one) ? changer.plan(tree, n, of, most) : NONE;
            if (changed == NONE) {
                refusal = FULL;
                return;
            }
            boolean isOwn = one == NONE;
            transaction = isOwn ? ledger.begin(true) : one;
            changer.markSources(tree, n, transaction);
            int found = changer.change(transaction, statement) ? changer.lookAtRules() : CONFLICT;
            if (found == 0) {
                number = changed;
                changer.tellWrites();
            }
            settle(own, isOwn, found);
        }

        /** Ends a statement that found a refusal, or none, and with it a transaction of its own. */
        private void settle(Session own, boolean isOwn, int found) {
            ledger.findEdges();
            refusal = ledger.isSerializable(transaction) && ledger.hasPivot() ? CONFLICT : found;
            if (refusal == 0) {
                changer.keep();
            } else {
                changer.undo();
            }
            if (refusal == CONFLICT || refusal != 0 && isOwn) {
                rollBack(transaction);
                own.end();
            } else if (isOwn) {
                commit(transaction, store.record(transaction));
            }
        }

        // ends of transactions

        private void rollBack(int one) {
            store.takeBack(one, NONE);
            ledger.rollBack(one);
        }

        /** Commits a transaction with a record of so many cells; whether it has happened. */
        private boolean commit(int one, int cells) {
            boolean isWhole = write(cells);
            if (isWhole) {
                ledger.commit(one, cells > 0);
            } else {
                rollBack(one);
            }
            if (isFallen) {
                refusal = POWER;
                endAll();
            }
            return isWhole;
        }

        private void endAll() {
            for (int i = 0; i < SESSIONS; i++) {
                if (ledger.isOpen(session[i].transaction)) {
                    store.takeBack(session[i].transaction, NONE);
                    ledger.rollBack(session[i].transaction);
                }
                session[i].end();
            }
        }

        // the log

        /** Writes cells, until the power falls; whether all were written. */
        private boolean write(int cells) {
            if (cells == 0 || fuse == 0 || cells < fuse) {
                written += cells;
                fuse -= fuse == 0 ? 0 : cells;
                return true;
            }
            int last = isFuseBehind ? fuse : fuse - 1;
            written += last;
            fuse = 0;
            isFallen = true;
            return last == cells;
        }

        int light(int cells, boolean isBehind) {
            int before = fuse;
            fuse = cells;
            isFuseBehind = isBehind;
            return before;
        }

        int rise() {
            isFallen = false;
            return store.recover();
        }

        int writeAside() {
            int cells = store.cellsAside();
            write(cells);
            return isFallen ? NONE : cells;
        }

        // checks

        int errorsFound() {
            int found = store.wrongIndexes();
            for (int i = 0; i < Store.MOST_MADE; i++) {
                Table one = store.at(i);
                found += one != null && !changer.keepsRules(one) ? 1 : 0;
            }
            return found + (ledger.toldCount() == ledger.toTell() ? 0 : 1);
        }
    }
}
