import java.util.ArrayList;
import java.util.Arrays;
import java.util.Comparator;
import java.util.HashSet;
import java.util.List;
import java.util.Objects;
import java.util.Set;
import java.util.TreeMap;

/**
 * The document done a second time, plainly and slowly, for tests that compare Snapshothall with it: nothing is kept
 * that can be found again (edges are looked for among all marks and written rows, views are asked as they stand).
 */
final class PlainHall {
    static final int NONE = -1, NAMES = 2, STATE = 3, FULL = 4, RULE = 5, CONFLICT = 6, POWER = 7;
    static final int OPEN = 0, COMMITTED = 1, ROLLED_BACK = 2;
    static final int MOST_WORK = 600, MOST_ROWS = 60, MOST_VERSIONS = 100, MOST_TRANSACTIONS = 200, MOST_SERIAL = 12;
    private static final int MOST_SERIAL_WORK = 400;

    // ---- what there is

    static final class Version {
        final Table table;
        final Object[] values;
        final Transaction maker;
        Transaction ender;
        boolean isDead;

        Version(Table itsTable, Object[] itsValues, Transaction itsMaker) {
            table = itsTable;
            values = itsValues;
            maker = itsMaker;
        }

        boolean isLasting() {
            return !isDead && maker.state == COMMITTED && !isEndedFor(Integer.MAX_VALUE);
        }

        boolean isEndedFor(int time) {
            return ender != null && ender.state == COMMITTED && ender.stamp <= time;
        }

        boolean isSeenBy(Transaction one, int snapshot) {
            boolean isMade = maker == one || maker.state == COMMITTED && maker.stamp <= snapshot;
            return !isDead && isMade && (ender == null || ender != one && !isEndedFor(snapshot));
        }

        /** Whether it is one that a transaction does not see, and that can still come to stand. */
        boolean isHiddenFrom(Transaction one) {
            return !isDead && !isSeenBy(one, one.snapshot) && ender != one && !isEndedFor(Integer.MAX_VALUE);
        }

        boolean isLike(int[] columns, Object[] told) {
            boolean isLike = true;
            for (int i = 0; i < columns.length; i++) {
                isLike &= Objects.equals(values[columns[i]], told[i]);
            }
            return isLike;
        }
    }

    record Rule(String kind, int[] columns, PlainText.Part test, Table other) {
    }

    static final class Table implements PlainNames.Columns {
        int number;
        String name;
        final List<String> names = new ArrayList<>();
        final List<Character> types = new ArrayList<>();
        final List<Boolean> isNotNull = new ArrayList<>();
        final List<Rule> rules = new ArrayList<>();
        int key;
        final int[] spreads = {4, 4, 4, 4, 4, 4};
        List<Version> versions = new ArrayList<>();

        @Override
        public List<String> names() {
            return names;
        }

        @Override
        public List<Character> types() {
            return types;
        }

        Object keyOf(Version version) {
            return version.values[key];
        }
    }

    static final class View implements PlainNames.Columns {
        String name;
        PlainText.Query query;
        final List<String> names = new ArrayList<>();
        final List<Character> types = new ArrayList<>();

        @Override
        public List<String> names() {
            return names;
        }

        @Override
        public List<Character> types() {
            return types;
        }
    }

    static final class Index {
        final int number;
        final String name;
        final Table table;
        final int[] columns;
        final PlainTree<Version> tree;

        Index(int itsNumber, String itsName, Table itsTable, int... itsColumns) {
            number = itsNumber;
            name = itsName;
            table = itsTable;
            columns = itsColumns;
            tree = new PlainTree<>(this::compare);
            fill();
        }

        private int compare(Version one, Version other) {
            for (int column : columns) {
                int found = PlainQueries.compare(one.values[column], other.values[column]);
                if (found != 0) {
                    return found;
                }
            }
            return Integer.compare(table.versions.indexOf(one), table.versions.indexOf(other));
        }

        void fill() {
            tree.clear();
            table.versions.forEach(tree::put);
        }
    }

    /** A set of rows: those whose key fits all bounds, or without bounds those with told values in told columns. */
    record Mark(Table table, List<Object[]> bounds, int[] columns, Object[] values) {
        boolean has(Version row) {
            if (row.table != table || bounds == null) {
                return row.table == table && row.isLike(columns, values);
            }
            boolean has = true;
            for (Object[] bound : bounds) {
                has &= Boolean.TRUE.equals(PlainQueries.compare(table.keyOf(row), (String) bound[0], bound[1]));
            }
            return has;
        }
    }

    /** What a transaction did to a version, and has not taken back. */
    private record Act(Version version, boolean isMade) {
    }

    static final class Transaction {
        int number;
        boolean isSerializable;
        int state = OPEN;
        int snapshot;
        int stamp = NONE;
        int begun;
        int ended = NONE;
        final List<Mark> marks = new ArrayList<>();
        final List<Version> written = new ArrayList<>();
        final List<Act> acts = new ArrayList<>();
        final Set<Transaction> edges = new HashSet<>();
    }

    private static final class Cursor {
        String name;
        Outcome answer;
        int passed;
    }

    private record Save(String name, int acts) {
    }

    static final class Session {
        Transaction transaction;
        final List<Save> saves = new ArrayList<>();
        final List<Cursor> cursors = new ArrayList<>();

        void end() {
            transaction = null;
            saves.clear();
            cursors.clear();
        }

        private Save save(String name) {
            return saves.stream().filter(save -> save.name.equals(name)).findFirst().orElse(null);
        }

        private Cursor cursor(String name) {
            return cursors.stream().filter(cursor -> cursor.name.equals(name)).findFirst().orElse(null);
        }
    }

    /** What a statement is told. */
    static final class Outcome {
        int session;
        int refusal;
        int number;
        int place = NONE;
        int rule = NONE;
        int columns;
        List<Object[]> rows;
        long work;
        Transaction transaction;

        boolean isLike(Outcome other) {
            boolean isLike = refusal == other.refusal && number == other.number && columns == other.columns;
            for (int i = 0; isLike && columns > 0 && i < number; i++) {
                isLike = Arrays.equals(rows.get(i), other.rows.get(i));
            }
            return isLike;
        }
    }

    private record Record(String text, Outcome outcome) {
    }

    private final Table[] tables = new Table[12];
    private final Index[] indexes = new Index[16];
    private final List<View> views = new ArrayList<>();
    final List<Transaction> transactions = new ArrayList<>();
    final Session[] sessions = {new Session(), new Session(), new Session(), new Session()};
    List<Outcome> results = List.of();
    boolean isDown;
    boolean wasFull;
    private final List<Record> records = new ArrayList<>();
    private int tablesMade;
    private int indexesMade;
    private int clock;
    private int moments;
    private int written;
    private int fuse;
    private boolean isFuseBehind;
    private String output = "";
    /** Whether a table may have any number of versions, as in the hall in which things are run anew. */
    private boolean isRoomy;
    // Of the statement that is done now.
    private PlainQueries queries;
    private final List<Version> made = new ArrayList<>();
    private final List<Version> ended = new ArrayList<>();

    List<Table> tables() {
        return Arrays.stream(tables).filter(Objects::nonNull).toList();
    }

    List<Index> indexes() {
        return Arrays.stream(indexes).filter(Objects::nonNull).toList();
    }

    List<View> views() {
        return views;
    }

    List<Index> indexesOf(Table table) {
        return indexes().stream().filter(index -> index.table == table).toList();
    }

    Table table(String name) {
        return tables().stream().filter(table -> table.name.equals(name)).findFirst().orElse(null);
    }

    View view(String name) {
        return views.stream().filter(view -> view.name.equals(name)).findFirst().orElse(null);
    }

    Index index(String name) {
        return indexes().stream().filter(index -> name.equals(index.name)).findFirst().orElse(null);
    }

    PlainNames.Columns source(String name) {
        return table(name) != null ? table(name) : view(name);
    }

    boolean isBusy() {
        return Arrays.stream(sessions).anyMatch(session -> session.transaction != null);
    }

    // ---- statements

    int run(String text) {
        results = new ArrayList<>();
        for (PlainText.Statement one : PlainText.read(text)) {
            Outcome outcome = perform(one);
            results.add(outcome);
            wasFull |= outcome.refusal == FULL;
            if (outcome.transaction != null && outcome.transaction.isSerializable && !one.is("explain", "vacuum", "analyze")) {
                records.add(new Record(text.substring(one.place, one.end + 1), outcome));
            }
        }
        return results.size();
    }

    private Outcome perform(PlainText.Statement one) {
        Session own = sessions[one.session];
        Outcome outcome = new Outcome();
        outcome.session = one.session;
        outcome.transaction = own.transaction;
        outcome.place = one.place;
        int names = isDown ? NONE : PlainNames.check(this, one);
        if (isDown) {
            outcome.refusal = POWER;
        } else if (names != NONE) {
            outcome.refusal = NAMES;
            outcome.place = names;
        } else if (isOutOfState(one, own)) {
            outcome.refusal = STATE;
        } else {
            look(own.transaction);
            outcome.refusal = isFull(one, own, outcome) ? FULL : 0;
        }
        if (outcome.refusal == 0) {
            act(one, own, outcome);
        }
        if (outcome.refusal == 0) {
            outcome.place = NONE;
        } else {
            outcome.number = 0;
            outcome.columns = 0;
        }
        return outcome;
    }

    /** Keeps what the statement sees, which is what its transaction sees as the statement begins. */
    private void look(Transaction one) {
        queries = new PlainQueries(this);
        for (Table table : tables()) {
            queries.see(table.name, seen(table, one).stream().map(version -> version.values).toList());
        }
    }

    private List<Version> seen(Table table, Transaction one) {
        List<Version> seen = new ArrayList<>(table.versions);
        seen.removeIf(version -> !version.isSeenBy(one, one == null ? clock : one.snapshot));
        seen.sort((version, other) -> PlainQueries.compare(table.keyOf(version), table.keyOf(other)));
        return seen;
    }

    private boolean isOutOfState(PlainText.Statement one, Session own) {
        boolean isOpen = own.transaction != null;
        String name = one.name == null ? null : one.name.text();
        switch (one.kind) {
            case "create table":
            case "create index":
            case "create view":
            case "drop index":
                return isBusy();
            case "drop table":
            case "drop view":
                return isBusy() || isUsed(name);
            case "begin":
                return isOpen;
            case "commit":
            case "rollback":
                return !isOpen;
            case "rollback to":
                return !isOpen || own.save(name) == null;
            case "save":
                return !isOpen || own.save(name) == null && own.saves.size() == 3;
            case "open":
                return !isOpen || own.cursor(name) != null || own.cursors.size() == 2;
            case "fetch":
            case "close":
                return !isOpen || own.cursor(name) == null;
            default:
                return false;
        }
    }

    private boolean isUsed(String name) {
        for (View view : views) {
            for (PlainText.Block block : PlainText.blocksIn(view.query)) {
                if (block.sources.stream().anyMatch(source -> source.name().equals(name))) {
                    return true;
                }
            }
        }
        Table table = table(name);
        return tables().stream().anyMatch(other -> other != table
                && other.rules.stream().anyMatch(rule -> rule.other != null && rule.other == table));
    }

    private boolean isFull(PlainText.Statement one, Session own, Outcome outcome) {
        boolean isChange = one.is("insert", "update", "delete");
        boolean begins = one.is("create table", "create index", "create view", "drop table", "drop index", "drop view")
                || own.transaction == null && (one.is("begin", "query") || isChange);
        boolean isIndexFull = indexes().size() == 8 || indexesMade == 16;
        if (begins && transactions.size() == MOST_TRANSACTIONS
                || one.is("create table") && (tables().size() == 6 || tablesMade == 12 || isIndexFull)
                || one.is("create index") && isIndexFull || one.is("create view") && views.size() == 4) {
            return true;
        }
        if (!isChange && !one.is("query", "open")) {
            return false;
        }
        outcome.work = workOf(one);
        if (outcome.work > MOST_WORK || viewsOf(one).stream().anyMatch(view -> queries.rowsOf(view).size() > MOST_ROWS)
                || one.query != null && queries.ask(one.query, null).size() > MOST_ROWS) {
            return true;
        }
        return isChange && !isRoomy && table(one.name.text()).versions.size() + freshRows(one).size() > MOST_VERSIONS;
    }

    private long workOf(PlainText.Statement one) {
        long within = 0;
        for (PlainText.Query query : PlainText.queriesOf(one)) {
            within += queries.workOf(query);
        }
        if (one.is("update", "delete")) {
            return Math.max(1, queries.rowsOf(one.name.text()).size()) * (1 + within);
        }
        return within;
    }

    /** The views that a statement uses, those within views too. */
    private Set<String> viewsOf(PlainText.Statement one) {
        Set<String> found = new HashSet<>();
        List<PlainText.Query> left = new ArrayList<>(PlainText.queriesOf(one));
        while (!left.isEmpty()) {
            for (PlainText.Block block : PlainText.blocksIn(left.remove(0))) {
                for (PlainText.Source source : block.sources) {
                    if (view(source.name()) != null && found.add(source.name())) {
                        left.add(view(source.name()).query);
                    }
                }
            }
        }
        return found;
    }

    private void act(PlainText.Statement one, Session own, Outcome outcome) {
        switch (one.kind) {
            case "insert":
            case "update":
            case "delete":
            case "query":
            case "open":
                transact(one, own, outcome);
                break;
            case "explain":
                output = PlainPlans.explain(this, one.query);
                outcome.number = output.length();
                break;
            case "vacuum":
                outcome.number = vacuum();
                break;
            case "analyze":
                outcome.number = analyze();
                break;
            case "begin":
            case "commit":
            case "rollback":
            case "rollback to":
            case "save":
            case "fetch":
            case "close":
                control(one, own, outcome);
                break;
            default:
                define(one, outcome);
        }
    }

    private void control(PlainText.Statement one, Session own, Outcome outcome) {
        String name = one.name == null ? null : one.name.text();
        switch (one.kind) {
            case "begin":
                own.transaction = begin(!one.isSnapshot);
                outcome.transaction = own.transaction;
                break;
            case "commit":
                commit(own.transaction, cellsOf(own.transaction));
                outcome.refusal = isDown ? POWER : 0;
                own.end();
                break;
            case "rollback":
                rollBack(own.transaction);
                own.end();
                break;
            case "rollback to":
                Save save = own.save(name);
                takeBack(own.transaction, save.acts);
                own.saves.subList(own.saves.indexOf(save) + 1, own.saves.size()).clear();
                break;
            case "save":
                own.saves.removeIf(old -> old.name.equals(name));
                own.saves.add(new Save(name, own.transaction.acts.size()));
                break;
            case "fetch":
                Cursor cursor = own.cursor(name);
                List<Object[]> all = cursor.answer.rows;
                int from = cursor.passed;
                cursor.passed = (int) Math.min(all.size(), (long) from + one.number);
                tell(outcome, cursor.answer.columns, all.subList(from, cursor.passed));
                break;
            default:
                own.cursors.remove(own.cursor(name));
        }
    }

    private static void tell(Outcome outcome, int columns, List<Object[]> rows) {
        outcome.columns = columns;
        outcome.rows = rows;
        outcome.number = rows.size();
    }

    // ---- create and drop

    private void define(PlainText.Statement one, Outcome outcome) {
        outcome.transaction = begin(true);
        boolean isWhole = commit(outcome.transaction, 12);
        outcome.refusal = isDown ? POWER : 0;
        if (!isWhole) {
            return;
        }
        String name = one.name.text();
        switch (one.kind) {
            case "create table":
                createTable(one);
                break;
            case "create index":
                Table of = table(one.other.text());
                indexes[indexesMade] = new Index(indexesMade, name, of, numbers(of, one.names));
                indexesMade++;
                break;
            case "create view":
                createView(one);
                break;
            case "drop table":
                Table table = table(name);
                indexesOf(table).forEach(index -> indexes[index.number] = null);
                tables[table.number] = null;
                break;
            case "drop index":
                indexes[index(name).number] = null;
                break;
            default:
                views.remove(view(name));
        }
    }

    private static int[] numbers(Table of, List<PlainText.Token> names) {
        return names.stream().mapToInt(name -> of.names.indexOf(name.text())).toArray();
    }

    private void createTable(PlainText.Statement one) {
        Table table = new Table();
        table.number = tablesMade;
        table.name = one.name.text();
        for (PlainText.Column column : one.columns) {
            table.names.add(column.name().text());
            table.types.add(column.type());
            table.isNotNull.add(column.isNotNull());
        }
        for (PlainText.Rule rule : one.rules) {
            int[] columns = numbers(table, rule.columns());
            boolean isItself = rule.other() != null && rule.other().text().equals(table.name);
            Table other = isItself ? table : rule.other() == null ? null : table(rule.other().text());
            table.rules.add(new Rule(rule.kind(), columns, rule.test(), other));
            table.key = rule.kind().equals("primary") ? columns[0] : table.key;
        }
        tables[tablesMade] = table;
        tablesMade++;
        indexes[indexesMade] = new Index(indexesMade, "", table, table.key);
        indexesMade++;
    }

    private void createView(PlainText.Statement one) {
        View view = new View();
        view.name = one.name.text();
        view.query = one.query;
        PlainText.Block first = one.query.blocks.get(0);
        for (int s = 0; first.star >= 0 && s < first.sources.size(); s++) {
            view.names.addAll(source(first.sources.get(s).name()).names());
        }
        for (PlainText.Item item : first.items) {
            PlainText.Part sum = item.sum();
            while (sum.is("round")) {
                sum = sum.part(0);
            }
            view.names.add(item.as() != null ? item.as() : sum.is("ref") ? sum.name : null);
        }
        for (int i = 0; i < view.names.size(); i++) {
            view.types.add(PlainNames.typeOf(one.query, i) == 'w' ? 'w' : 'i');
        }
        views.add(view);
    }

    // ---- transactions

    private Transaction begin(boolean isSerializable) {
        Transaction one = new Transaction();
        one.number = transactions.size();
        one.isSerializable = isSerializable;
        one.snapshot = clock;
        one.begun = moments++;
        transactions.add(one);
        return one;
    }

    private static void takeBack(Transaction one, int acts) {
        while (one.acts.size() > acts) {
            Act act = one.acts.remove(one.acts.size() - 1);
            act.version.isDead |= act.isMade;
            act.version.ender = act.isMade ? act.version.ender : null;
        }
    }

    private static void rollBack(Transaction one) {
        takeBack(one, 0);
        one.state = ROLLED_BACK;
    }

    private static int cellsOf(Transaction one) {
        int cells = one.acts.isEmpty() ? 0 : 4;
        for (Act act : one.acts) {
            cells += 2 + (act.isMade ? act.version.values.length : 0);
        }
        return cells;
    }

    /** Commits with a record of so many cells; whether that is whole. */
    private boolean commit(Transaction one, int cells) {
        boolean isWhole = write(cells);
        if (isWhole) {
            clock += cells > 0 ? 1 : 0;
            one.state = COMMITTED;
            one.stamp = clock;
            one.ended = moments++;
        } else {
            rollBack(one);
        }
        for (Session session : isDown ? sessions : new Session[0]) {
            if (session.transaction != null && session.transaction.state == OPEN) {
                rollBack(session.transaction);
            }
            session.end();
        }
        return isWhole;
    }

    /** Writes cells one by one; whether all were written. */
    private boolean write(int cells) {
        for (int i = 1; i <= cells; i++) {
            boolean falls = fuse == 1;
            written += falls && !isFuseBehind ? 0 : 1;
            fuse = Math.max(0, fuse - 1);
            if (falls) {
                isDown = true;
                return isFuseBehind && i == cells;
            }
        }
        return true;
    }

    /** An insert, update, delete or query, in its session's transaction or in one of its own. */
    private void transact(PlainText.Statement one, Session own, Outcome outcome) {
        boolean isAlone = own.transaction == null;
        Transaction transaction = isAlone ? begin(true) : own.transaction;
        outcome.transaction = transaction;
        made.clear();
        ended.clear();
        if (transaction.isSerializable) {
            PlainText.queriesOf(one).forEach(query -> mark(transaction, query, false));
        }
        int found = 0;
        if (one.is("query", "open")) {
            tell(outcome, one.query.blocks.get(0).types.size(), queries.ask(one.query, null));
        } else {
            found = change(one, transaction, outcome);
        }
        if (transaction.isSerializable) {
            findEdges(transaction);
            found = hasPivot() ? CONFLICT : found;
        }
        outcome.refusal = found;
        outcome.rule = found == RULE ? outcome.rule : NONE;
        if (found == 0) {
            stand(one, own, outcome);
        } else {
            vanish(transaction);
        }
        if (found == CONFLICT || found != 0 && isAlone) {
            rollBack(transaction);
            own.end();
        } else if (isAlone) {
            commit(transaction, cellsOf(transaction));
            outcome.refusal = isDown ? POWER : 0;
        }
    }

    private void stand(PlainText.Statement one, Session own, Outcome outcome) {
        for (Version version : made) {
            indexesOf(version.table).forEach(index -> index.tree.put(version));
        }
        if (one.is("open")) {
            Cursor cursor = new Cursor();
            cursor.name = one.name.text();
            cursor.answer = new Outcome();
            tell(cursor.answer, outcome.columns, outcome.rows);
            own.cursors.add(cursor);
            tell(outcome, 0, List.of());
        }
    }

    /** What a refused statement made and ended was never there. */
    private void vanish(Transaction transaction) {
        made.forEach(version -> version.table.versions.remove(version));
        ended.forEach(version -> version.ender = null);
        transaction.acts.removeIf(act -> act.isMade ? made.contains(act.version) : ended.contains(act.version));
    }

    // ---- changes

    private List<Version> chosen(PlainText.Statement one, Transaction transaction) {
        List<Version> chosen = seen(table(one.name.text()), transaction);
        chosen.removeIf(version -> one.where != null
                && !queries.isTrue(one.where, new PlainQueries.Place(null, version.values)));
        return chosen;
    }

    /** The values of the versions that a statement makes. */
    private List<Object[]> freshRows(PlainText.Statement one) {
        List<Object[]> fresh = new ArrayList<>();
        Table table = table(one.name.text());
        if (one.is("insert") && one.query != null) {
            return queries.ask(one.query, null);
        }
        for (PlainText.Tuple tuple : one.tuples) {
            fresh.add(tuple.sums().stream().map(sum -> queries.value(sum, new PlainQueries.Place(null))).toArray());
        }
        for (Version old : one.is("update") ? chosen(one, sessions[one.session].transaction) : List.<Version>of()) {
            Object[] values = old.values.clone();
            for (PlainText.Setting setting : one.settings) {
                values[table.names.indexOf(setting.column().text())] =
                        queries.value(setting.sum(), new PlainQueries.Place(null, old.values));
            }
            fresh.add(values);
        }
        return fresh;
    }

    private int change(PlainText.Statement one, Transaction transaction, Outcome outcome) {
        Table table = table(one.name.text());
        List<Object[]> fresh = freshRows(one);
        List<Version> chosen = one.is("insert") ? List.of() : chosen(one, sessions[one.session].transaction);
        outcome.number = one.is("insert") ? fresh.size() : chosen.size();
        if (transaction.isSerializable && !one.is("insert")) {
            transaction.marks.add(new Mark(table, bounds(one.where, 0, table), null, null));
        }
        if (chosen.stream().anyMatch(version -> version.ender != null)) {
            return CONFLICT;
        }
        for (Version version : chosen) {
            version.ender = transaction;
            ended.add(version);
            transaction.acts.add(new Act(version, false));
        }
        for (Object[] values : fresh) {
            Version version = new Version(table, values, transaction);
            table.versions.add(version);
            made.add(version);
            transaction.acts.add(new Act(version, true));
        }
        int found = lookAtRules(transaction, outcome);
        if (found == 0) {
            transaction.written.addAll(ended);
            transaction.written.addAll(made);
        }
        return found;
    }

    private int lookAtRules(Transaction transaction, Outcome outcome) {
        for (Version version : made) {
            for (int c = 0; c < version.values.length; c++) {
                if (version.table.isNotNull.get(c) && version.values[c] == null) {
                    outcome.rule = 10 * version.table.number + 9;
                    return RULE;
                }
            }
            for (Rule rule : version.table.rules) {
                outcome.rule = 10 * version.table.number + version.table.rules.indexOf(rule);
                int found = lookAt(rule, version, transaction);
                if (found != 0) {
                    return found;
                }
            }
        }
        for (Version version : ended) {
            int found = lookAtRefs(version, transaction, outcome);
            if (found != 0) {
                return found;
            }
        }
        return 0;
    }

    private int lookAt(Rule rule, Version version, Transaction one) {
        if (rule.test != null) {
            Boolean truth = queries.truth(rule.test, new PlainQueries.Place(null, version.values));
            return Boolean.FALSE.equals(truth) ? RULE : 0;
        }
        Object[] values = Arrays.stream(rule.columns).mapToObj(column -> version.values[column]).toArray();
        if (Arrays.asList(values).contains(null)) {
            return rule.kind.equals("primary") ? RULE : 0;
        }
        if (rule.other != null) {
            int[] key = {rule.other.key};
            for (Version other : marked(one, rule.other, key, values)) {
                if (other.isSeenBy(one, one.snapshot)) {
                    return other.ender == null ? 0 : CONFLICT;
                }
            }
            return RULE;
        }
        return lookAmong(marked(one, version.table, rule.columns, values), version, one);
    }

    /** Gives a mark, and tells the versions that are rows of it. */
    private static List<Version> marked(Transaction one, Table table, int[] columns, Object[] values) {
        if (one.isSerializable) {
            one.marks.add(new Mark(table, null, columns, values));
        }
        return table.versions.stream().filter(version -> version.isLike(columns, values)).toList();
    }

    /** RULE if one of some versions, but this one, is seen; CONFLICT if one can come to be. */
    private static int lookAmong(List<Version> like, Version but, Transaction one) {
        int found = 0;
        for (Version other : like) {
            if (other != but && other.isSeenBy(one, one.snapshot)) {
                return RULE;
            }
            found = other != but && other.isHiddenFrom(one) ? CONFLICT : found;
        }
        return found;
    }

    private int lookAtRefs(Version version, Transaction one, Outcome outcome) {
        Object key = version.table.keyOf(version);
        boolean isThere = version.table.versions.stream()
                .anyMatch(other -> key.equals(other.table.keyOf(other)) && other.isSeenBy(one, one.snapshot));
        for (Table table : isThere ? List.<Table>of() : tables()) {
            for (Rule rule : table.rules) {
                if (rule.other == version.table) {
                    outcome.rule = 10 * table.number + table.rules.indexOf(rule);
                    int found = lookAmong(marked(one, table, rule.columns, new Object[] {key}), null, one);
                    if (found != 0) {
                        return found;
                    }
                }
            }
        }
        return 0;
    }

    // ---- marks and edges

    /** The marks of the sources of a query; those of a view are of all keys. */
    private void mark(Transaction one, PlainText.Query query, boolean isView) {
        for (PlainText.Block block : PlainText.blocksIn(query)) {
            for (int s = 0; s < block.sources.size(); s++) {
                PlainText.Source source = block.sources.get(s);
                Table table = table(source.name());
                if (table == null) {
                    mark(one, view(source.name()).query, true);
                } else {
                    boolean isAll = isView || source.how().equals("left");
                    one.marks.add(new Mark(table, isAll ? List.of() : bounds(block.where, s, table), null, null));
                }
            }
        }
    }

    private static boolean isConstant(PlainText.Part sum) {
        return sum.query == null && !sum.is("ref") && sum.parts.stream().allMatch(PlainHall::isConstant);
    }

    /** The parts of a test that bound the key of a source: a sign and the value behind it. */
    private List<Object[]> bounds(PlainText.Part where, int source, Table table) {
        List<Object[]> bounds = new ArrayList<>();
        for (PlainText.Part part : PlainText.partsOf(where)) {
            for (int side = 0; side < 2 && part.is("compare") && !part.signs.get(0).equals("<>"); side++) {
                PlainText.Part ref = part.part(side);
                boolean isKey = ref.is("ref") && ref.outward == 0 && ref.source == source && ref.column == table.key;
                if (isKey && isConstant(part.part(1 - side))) {
                    String sign = side == 0 ? part.signs.get(0) : turned(part.signs.get(0));
                    bounds.add(new Object[] {sign, queries.value(part.part(1 - side), null)});
                }
            }
        }
        return bounds;
    }

    private static String turned(String sign) {
        return sign.replace('<', '!').replace('>', '<').replace('!', '>');
    }

    private static boolean areConcurrent(Transaction one, Transaction other) {
        return (other.ended == NONE || one.begun < other.ended) && (one.ended == NONE || other.begun < one.ended);
    }

    /** Looks for the edges between one transaction and all others. */
    private void findEdges(Transaction one) {
        for (Transaction other : transactions) {
            if (other != one && other.isSerializable && other.state != ROLLED_BACK && areConcurrent(one, other)) {
                findEdge(one, other);
                findEdge(other, one);
            }
        }
    }

    private static void findEdge(Transaction from, Transaction to) {
        if (from.marks.stream().anyMatch(mark -> to.written.stream().anyMatch(mark::has))) {
            from.edges.add(to);
        }
    }

    private static boolean isEdge(Transaction from, Transaction to) {
        return from.state != ROLLED_BACK && to.state != ROLLED_BACK && from.edges.contains(to);
    }

    private long edgesFrom(Transaction one) {
        return transactions.stream().filter(other -> isEdge(one, other)).count();
    }

    private long edgesTo(Transaction one) {
        return transactions.stream().filter(other -> isEdge(other, one)).count();
    }

    private boolean hasPivot() {
        return transactions.stream().anyMatch(one -> edgesFrom(one) > 0 && edgesTo(one) > 0);
    }

    private List<Transaction> order() {
        List<Transaction> left = new ArrayList<>(transactions);
        left.removeIf(one -> one.state != COMMITTED || !one.isSerializable);
        List<Transaction> order = new ArrayList<>();
        while (!left.isEmpty()) {
            Transaction next = left.stream().filter(one -> left.stream().noneMatch(
                    other -> other != one && (other.ended < one.begun || isEdge(other, one)))).findFirst().orElseThrow();
            left.remove(next);
            order.add(next);
        }
        return order;
    }

    // ---- care, log and checks

    private int vacuum() {
        int least = transactions.stream().filter(one -> one.state == OPEN).mapToInt(one -> one.snapshot).min()
                .orElse(Integer.MAX_VALUE);
        int before = versionsThere();
        tables().forEach(table -> table.versions.removeIf(version -> version.isDead || version.isEndedFor(least)));
        indexes().forEach(Index::fill);
        return before - versionsThere();
    }

    private int analyze() {
        for (Table table : tables()) {
            for (int c = 0; c < table.names.size(); c++) {
                int column = c;
                table.spreads[c] = (int) Math.max(1, table.versions.stream().map(version -> version.values[column])
                        .filter(Objects::nonNull).distinct().count());
            }
        }
        return versionsThere();
    }

    private int versionsThere() {
        return tables().stream().mapToInt(table -> table.versions.size()).sum();
    }

    int setFuse(int cells, boolean isBehind) {
        int before = fuse;
        fuse = cells;
        isFuseBehind = isBehind;
        return before;
    }

    int restart() {
        isDown = false;
        tables().forEach(table -> table.versions.removeIf(version -> !version.isLasting()));
        indexes().forEach(Index::fill);
        return versionsThere();
    }

    int checkpoint() {
        int cells = 6 + 12 * (tables().size() + views.size());
        for (Table table : tables()) {
            cells += (1 + table.names.size()) * (int) table.versions.stream().filter(Version::isLasting).count();
        }
        cells += 12 * (int) indexes().stream().filter(index -> !index.name.isEmpty()).count();
        write(cells);
        return isDown ? NONE : cells;
    }

    /** Whether all transactions that committed were SERIALIZABLE, and nothing was refused as FULL. */
    boolean isPromisedToBeSerial() {
        return !wasFull && transactions.stream().allMatch(one -> one.state != COMMITTED || one.isSerializable);
    }

    /** What isSerial answers; null if it throws. What was not FULL first has the room that it needs anew. */
    Boolean isSerial() {
        if (isDown || isBusy() || order().size() > MOST_SERIAL) {
            return null;
        }
        PlainHall anew = new PlainHall();
        boolean isSerial = true;
        long work = 0;
        for (Transaction one : order()) {
            for (Record record : records) {
                if (record.outcome.transaction == one) {
                    anew.isRoomy = record.outcome.refusal != FULL;
                    anew.run(record.text);
                    work += anew.results.get(0).work;
                    isSerial &= record.outcome.refusal == CONFLICT || record.outcome.refusal == POWER
                            || record.outcome.isLike(anew.results.get(0));
                }
            }
        }
        return work > MOST_SERIAL_WORK ? null : (Boolean) (isSerial && rowsNow().equals(anew.rowsNow()));
    }

    private String rowsNow() {
        TreeMap<Integer, List<String>> rows = new TreeMap<>();
        for (Table table : tables()) {
            rows.put(table.number, seen(table, null).stream().map(version -> Arrays.toString(version.values)).toList());
        }
        return rows.toString();
    }

    // ---- what is told, in the words of Calls

    private static long told(Object value) {
        return value == null ? 0 : value instanceof Long ? (Long) value : Calls.word((String) value);
    }

    String outcome() {
        StringBuilder all = new StringBuilder("results");
        for (Outcome one : results) {
            all.append(' ').append(one.session).append(' ').append(one.refusal).append(' ').append(one.number);
            all.append(' ').append(one.place).append(' ').append(one.columns).append(' ').append(one.rule);
            all.append(told(one));
        }
        return all.toString();
    }

    private static String told(Outcome one) {
        if (one.refusal != 0) {
            return List.of("N" + one.place, "S", "F", "R" + one.rule, "C", "P").get(one.refusal - NAMES);
        }
        if (one.columns == 0) {
            return "" + one.number;
        }
        List<String> rows = new ArrayList<>();
        for (Object[] row : one.rows) {
            rows.add(String.join(",", Arrays.stream(row).map(value -> value == null ? "-" : "" + told(value)).toList()));
        }
        return "[" + String.join(";", rows) + "]";
    }

    String kept() {
        StringBuilder all = new StringBuilder("text 0 -1").append(output);
        for (Session session : sessions) {
            all.append("\nsession ").append(numberOf(session.transaction)).append(' ').append(session.saves.size());
            all.append(' ').append(session.cursors.size());
        }
        for (Transaction one : transactions) {
            all.append("\ntransaction ").append(one.state).append(one.isSerializable ? " 1 " : " 0 ");
            all.append(one.snapshot).append(' ').append(one.stamp).append(' ').append(one.begun).append(' ').append(one.ended);
            all.append(' ').append(one.marks.size()).append(' ').append(edgesTo(one)).append(' ').append(edgesFrom(one));
            transactions.forEach(other -> all.append(isEdge(one, other) ? " to " + other.number : ""));
        }
        List<String> order = order().stream().map(one -> " " + one.number).toList();
        all.append(order.isEmpty() ? "" : "\norder").append(String.join("", order));
        tables().forEach(table -> all.append(kept(table)));
        for (Index index : indexes()) {
            all.append("\nindex ").append(index.number).append(' ').append(index.table.number).append(' ');
            all.append(index.columns.length).append(' ').append(index.tree.entries().size()).append(' ');
            all.append(index.tree.height()).append(' ').append(index.tree.leaves()).append(index.table.versions.isEmpty() ? "" : ":");
            all.append(String.join(" ", index.tree.entries().stream().map(e -> "" + index.table.versions.indexOf(e)).toList()));
        }
        all.append("\nclock ").append(clock).append(" writes ").append(written).append(' ');
        return all.append(isDown).append(checksum()).append(' ').append(shares()).append(" errors 0").toString();
    }

    private static int numberOf(Transaction one) {
        return one == null ? NONE : one.number;
    }

    private String kept(Table table) {
        StringBuilder all = new StringBuilder("\ntable ").append(table.number).append(' ').append(table.names.size());
        all.append(' ').append(table.rules.size()).append(' ').append(table.versions.size());
        all.append(' ').append(table.versions.stream().filter(version -> version.isDead).count());
        all.append(' ').append(seen(table, null).size()).append(' ').append(indexesOf(table).size()).append(' ').append(table.key);
        for (int c = 0; c < table.names.size(); c++) {
            int column = c;
            int index = indexesOf(table).stream().filter(one -> one.columns[0] == column).mapToInt(one -> one.number).findFirst()
                    .orElse(NONE);
            all.append(" spread ").append(table.spreads[c]).append(" index ").append(index);
        }
        for (Version version : table.versions) {
            all.append("\n  ").append(version.maker.number).append(' ').append(numberOf(version.ender));
            all.append(version.isDead ? " 1:" : " 0:");
            Arrays.stream(version.values).forEach(value -> all.append(' ').append(told(value)));
        }
        return all.toString();
    }

    private long checksum() {
        long sum = 31L * clock + transactions.size();
        for (Table table : tables()) {
            for (Version version : table.versions) {
                sum = 31 * (31 * sum + version.maker.number) + numberOf(version.ender);
                for (Object value : version.values) {
                    sum = 31 * sum + told(value);
                }
            }
        }
        return sum;
    }

    private String shares() {
        int all = versionsThere();
        int seen = tables().stream().mapToInt(table -> seen(table, null).size()).sum();
        double mean = tables().isEmpty() ? 0.0 : (double) all / (double) tables().size();
        float unseen = all == 0 ? 0.0f : (float) (all - seen) / (float) all;
        return mean + " " + unseen;
    }
}
