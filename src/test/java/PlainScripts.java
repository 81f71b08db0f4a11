import java.util.ArrayList;
import java.util.Arrays;
import java.util.Collections;
import java.util.List;
import java.util.Random;

/** Makes statements at random that mean something in a PlainHall as it stands, and now and then something wrong. */
final class PlainScripts {
    private static final String[] TABLES = {"t", "u", "x", "y", "z", "tt", "q"};
    private static final String[] VIEWS = {"v", "w", "vv", "vw"};
    private static final String[] INDEXES = {"i", "j", "h", "ii"};
    private static final List<String> COLUMNS = List.of("a", "b", "c", "d", "k", "e", "f");
    private static final char INT = 'i', WORD = 'w';

    /** A source, or a column by which a block is grouped, that a sum can tell. */
    private record Ref(String text, char type) {
    }

    private static final class Scope {
        final List<Ref> columns = new ArrayList<>();
        final List<Ref> groupedBy = new ArrayList<>();
        boolean isGrouped;
        boolean isInAggregate;
    }

    private final Random random;
    private final PlainHall hall;
    /** How often something is wrong on purpose. */
    private final double wrong;
    private final int keys;
    private final int depth;
    private final boolean hasSnapshots;
    /** How often tables, views and indexes are made and dropped, and tables crowded. */
    private final double defining;
    private final double crowding;
    private int crowd;

    PlainScripts(Random itsRandom, PlainHall itsHall) {
        random = itsRandom;
        hall = itsHall;
        wrong = new double[] {0, 0, 0.005, 0.02, 0.08}[below(5)];
        keys = new int[] {3, 5, 8, 20}[below(4)];
        depth = 1 + below(3);
        hasSnapshots = below(3) == 0;
        int mode = below(5);
        defining = mode == 0 ? 0.7 : 0.12;
        crowding = mode == 1 ? 0.5 : 0;
    }

    private int below(int bound) {
        return random.nextInt(bound);
    }

    private boolean happens(double share) {
        return random.nextDouble() < share;
    }

    private boolean isWrong() {
        return wrong > 0 && happens(wrong);
    }

    private String pick(String... texts) {
        return texts[below(texts.length)];
    }

    private <T> T of(List<T> list) {
        return list.get(below(list.size()));
    }

    private char type() {
        return happens(0.7) ? INT : WORD;
    }

    // ---- names

    private String table() {
        return isWrong() || hall.tables().isEmpty() ? pick(pick(TABLES), pick(VIEWS), "nosuch") : of(hall.tables()).name;
    }

    private String source() {
        if (isWrong() || hall.tables().isEmpty()) {
            return pick(pick(TABLES), pick(VIEWS), of(COLUMNS));
        }
        return hall.views().isEmpty() || happens(0.7) ? of(hall.tables()).name : of(hall.views()).name;
    }

    private void addColumns(Scope scope, String called, PlainNames.Columns columns) {
        for (int c = 0; columns != null && c < columns.names().size(); c++) {
            String name = columns.names().get(c);
            if (name == null) {
                continue;
            }
            scope.columns.add(new Ref(called + "." + name, columns.types().get(c)));
            boolean isAlone = scope.columns.stream().noneMatch(ref -> ref.text.equals(name));
            if (isAlone || happens(wrong)) {
                scope.columns.add(new Ref(name, columns.types().get(c)));
            }
        }
    }

    private Scope scopeOf(PlainHall.Table table) {
        Scope scope = new Scope();
        addColumns(scope, table.name, table);
        return scope;
    }

    // ---- sums

    private String number() {
        return happens(0.02) ? "999999999" : "" + below(keys + 1);
    }

    private String word() {
        return "'" + pick("a", "b", "ab", "aa", "abcdefgh", "z", "b", "c", "null") + "'";
    }

    private String constant(char type) {
        return type == INT ? number() : word();
    }

    private String ref(char type, List<Scope> scopes) {
        if (isWrong()) {
            return pick(of(COLUMNS), of(COLUMNS) + "." + of(COLUMNS), pick(TABLES) + "." + of(COLUMNS));
        }
        int from = scopes.size() - 1;
        while (from > 0 && happens(0.25)) {
            from--;
        }
        for (int i = from; i >= 0; i--) {
            Scope scope = scopes.get(i);
            boolean isBare = scope.isGrouped && !scope.isInAggregate && !happens(wrong);
            List<Ref> fitting = new ArrayList<>(isBare ? scope.groupedBy : scope.columns);
            fitting.removeIf(ref -> ref.type != type);
            if (!fitting.isEmpty()) {
                return of(fitting).text;
            }
        }
        return constant(type);
    }

    private String sum(char wanted, List<Scope> scopes, int left) {
        char type = isWrong() ? wanted == INT ? WORD : INT : wanted;
        switch (left <= 0 ? below(5) : below(14)) {
            case 0:
                return constant(type);
            case 1:
                return happens(0.2) ? "null" : constant(type);
            case 2:
            case 3:
            case 4:
                return ref(type, scopes);
            case 5:
                return "coalesce(" + sum(type, scopes, left - 1) + "," + sum(type, scopes, left - 1) + ")";
            case 6:
                return "case when " + test(scopes, left - 1) + " then " + sum(type, scopes, left - 1) + " else "
                        + sum(type, scopes, left - 1) + " end";
            case 7:
            case 8:
                return aggregate(type, scopes, left - 1);
            case 9:
                return "(" + sum(type, scopes, left - 1) + ")";
            default:
                return type == WORD ? ref(type, scopes) : reckoning(scopes, left - 1);
        }
    }

    private String reckoning(List<Scope> scopes, int left) {
        String sum = pick("", "", "-", "--") + unit(scopes, left);
        for (int i = below(3); i >= 0; i--) {
            sum += pick("+", "-", " + ", "*", "/", "%") + unit(scopes, left);
        }
        return sum;
    }

    private String unit(List<Scope> scopes, int left) {
        return happens(0.4) ? number() : happens(0.6) ? ref(INT, scopes) : "(" + sum(INT, scopes, left - 1) + ")";
    }

    private String aggregate(char type, List<Scope> scopes, int left) {
        Scope scope = scopes.isEmpty() ? new Scope() : scopes.get(scopes.size() - 1);
        if ((!scope.isGrouped || scope.isInAggregate) && !isWrong()) {
            return ref(type, scopes);
        }
        if (type == INT && below(5) == 0) {
            return "count(*)";
        }
        boolean wasInAggregate = scope.isInAggregate;
        scope.isInAggregate = true;
        String name = type == INT ? pick("count", "sum", "min", "max") : pick("min", "max");
        String text = name + "(" + pick("", "", "distinct ") + sum(name.equals("count") ? type() : type, scopes, left) + ")";
        scope.isInAggregate = wasInAggregate;
        return text;
    }

    // ---- tests

    private String sign() {
        return pick("=", "=", "<", "<=", ">", ">=", "<>");
    }

    private String test(List<Scope> scopes, int left) {
        char type = type();
        switch (left <= 0 ? below(5) : below(16)) {
            case 0:
            case 1:
                return sum(type, scopes, left - 1) + sign() + sum(type, scopes, left - 1);
            case 2:
                return ref(type, scopes) + sign() + constant(type);
            case 3:
                return ref(type, scopes) + pick(" is null", " is not null");
            case 4:
                return constant(type) + sign() + ref(type, scopes);
            case 5:
                return "not " + test(scopes, left - 1);
            case 6:
                return "[" + test(scopes, left - 1) + pick(" and ", " or ") + test(scopes, left - 1) + "]";
            case 7:
                return pick("", "not ") + "exists(" + query(scopes, left - 1, types()) + ")";
            case 8:
                return sum(type, scopes, left - 1) + pick("", " not") + " in(" + query(scopes, left - 1, List.of(type)) + ")";
            case 9:
                return sum(type, scopes, left - 1) + pick("", " not") + " in(" + sums(type, scopes, left - 2, 1 + below(4)) + ")";
            case 10:
                return sum(type, scopes, left - 1) + pick("", " not") + " between " + sum(type, scopes, left - 2) + " and "
                        + sum(type, scopes, left - 2);
            default:
                return test(scopes, left - 1) + pick(" or ", " and ", " and ", " and ") + test(scopes, left - 1);
        }
    }

    private String sums(char type, List<Scope> scopes, int left, int howMany) {
        String sums = sum(type, scopes, left);
        for (int i = 1; i < howMany; i++) {
            sums += "," + sum(type, scopes, left);
        }
        return sums;
    }

    // ---- queries

    private List<Character> types() {
        List<Character> types = new ArrayList<>();
        for (int i = below(3); i >= 0; i--) {
            types.add(type());
        }
        return types;
    }

    private String query() {
        return query(List.of(), depth, types());
    }

    private String query(List<Scope> around, int left, List<Character> wanted) {
        List<Character> types = new ArrayList<>(wanted);
        if (isWrong()) {
            types.set(below(types.size()), type());
        }
        if (isWrong()) {
            types.add(type());
        }
        String query = block(around, left, types);
        for (int i = 0; i < 2 && happens(0.15); i++) {
            query += pick(" union ", " except ") + block(around, left, types);
        }
        for (int i = 0; i < 3 && happens(0.25); i++) {
            query += (i == 0 ? " order by " : ",") + (isWrong() ? 7 * below(2) : 1 + below(types.size())) + pick("", " down");
        }
        return query + (happens(0.15) ? " limit " + below(6) + (happens(0.4) ? " offset " + below(4) : "") : "");
    }

    private String block(List<Scope> around, int left, List<Character> types) {
        Scope own = new Scope();
        List<Scope> scopes = new ArrayList<>(around);
        scopes.add(own);
        String sources = sources(scopes, 1 + (happens(0.35) ? 1 : 0) + (happens(0.1) ? 1 : 0), left);
        String tail = happens(0.55) ? " where " + test(scopes, left) : "";
        boolean isGrouped = happens(0.25);
        for (int i = 0; isGrouped && i < 3 && happens(0.6); i++) {
            char type = type();
            String ref = ref(type, scopes);
            ref = Character.isLetter(ref.charAt(0)) ? ref : "a";
            own.groupedBy.add(new Ref(ref, type));
            tail += (i == 0 ? " group by " : ",") + ref;
        }
        own.isGrouped = isGrouped;
        tail += isGrouped && happens(0.4) ? " having " + test(scopes, left - 1) : "";
        String items = "";
        for (int i = 0; i < types.size(); i++) {
            boolean isAggregate = isGrouped && i == 0 && !tail.contains(" group by ");
            items += (i == 0 ? "" : ",") + (isAggregate ? aggregate(types.get(i), scopes, left) : sum(types.get(i), scopes, left - 1))
                    + (happens(0.2) ? " as " + of(COLUMNS) : "");
        }
        boolean isStar = around.isEmpty() && !isGrouped && happens(0.1) || isWrong();
        return "select " + pick("", "", "", "distinct ") + (isStar ? "*" : items) + " from " + sources + tail;
    }

    private String sources(List<Scope> scopes, int howMany, int left) {
        List<String> calleds = new ArrayList<>();
        String sources = "";
        for (int i = 0; i < howMany; i++) {
            String name = source();
            boolean isCalled = calleds.contains(name) && !isWrong() || happens(0.1);
            String called = isCalled ? pick("p", "o", "n") + "xyz".charAt(i) : name;
            String how = i == 0 ? "" : pick(",", ",", " join ", " left join ");
            calleds.add(called);
            addColumns(scopes.get(scopes.size() - 1), called, hall.source(name));
            sources += how + name + (isCalled ? " as " + called : "");
            sources += how.endsWith(" ") ? " on " + test(scopes, left - 1) : "";
        }
        return sources;
    }

    // ---- statements

    /** A statement for a session. */
    String statement(PlainHall.Session session) {
        boolean isOpen = session.transaction != null;
        int tables = hall.tables().size();
        if (tables == 0 || !hall.isBusy() && tables < 3 && happens(0.3)) {
            return createTable();
        }
        if (!hall.isBusy() && happens(defining) || happens(0.005)) {
            return define();
        }
        if (happens(crowding)) {
            return crowding(of(hall.tables()));
        }
        if (!isOpen && happens(0.35)) {
            return hasSnapshots && happens(0.4) ? "begin snapshot" : "begin";
        }
        return below(3) == 0 ? control() : below(2) == 0 ? change(of(hall.tables())) : query();
    }

    private String control() {
        switch (below(8)) {
            case 0:
                return pick("save p", "save q", "save r", "save s");
            case 1:
                return pick("rollback to p", "rollback to q", "rollback to r");
            case 2:
                return "open " + pick("c", "d", "e") + " for " + query();
            case 3:
                return pick("fetch c ", "fetch d ", "fetch c ") + below(4);
            case 4:
                return pick("close c", "close d");
            case 5:
                return pick("vacuum", "analyze");
            case 6:
                return "explain " + query(List.of(), depth + 1, types());
            default:
                return pick("commit", "commit", "commit", "rollback");
        }
    }

    private String define() {
        switch (below(9)) {
            case 0:
                return createTable();
            case 1:
            case 2:
            case 3:
                List<String> columns = of(hall.tables()).names;
                return "create index " + pick(INDEXES) + " on " + table() + "(" + of(columns)
                        + (happens(0.4) ? "," + of(columns) : "") + ")";
            case 4:
            case 5:
                return "create view " + pick(VIEWS) + " as " + query();
            case 6:
                return "drop table " + pick(TABLES);
            case 7:
                return "drop index " + pick(INDEXES);
            default:
                return "drop view " + pick(VIEWS);
        }
    }

    private String createTable() {
        String name = pick(TABLES);
        for (int i = 0; i < 5 && hall.table(name) != null && !isWrong(); i++) {
            name = pick(TABLES);
        }
        List<String> columns = new ArrayList<>(COLUMNS);
        Collections.shuffle(columns, random);
        columns = columns.subList(0, happens(0.05) ? 6 : 1 + below(4));
        List<Character> types = new ArrayList<>();
        String text = "create table " + name + "(";
        for (String column : columns) {
            types.add(type());
            text += (types.size() == 1 ? "" : ",") + (isWrong() ? columns.get(0) : column)
                    + (types.get(types.size() - 1) == INT ? " int" : " word") + (happens(0.12) ? " not null" : "");
        }
        for (String rule : rules(name, columns, types)) {
            text += "," + rule;
        }
        return text + ")";
    }

    private List<String> rules(String name, List<String> columns, List<Character> types) {
        List<String> rules = new ArrayList<>();
        int key = below(columns.size());
        for (int i = 0; i < (isWrong() ? 2 * below(2) : 1); i++) {
            rules.add("primary(" + columns.get(key) + ")");
        }
        if (happens(0.25)) {
            String one = of(columns);
            String other = of(columns);
            rules.add("unique(" + one + (happens(0.4) && !one.equals(other) || isWrong() ? "," + other : "") + ")");
        }
        if (happens(0.2)) {
            Scope scope = new Scope();
            for (int c = 0; c < columns.size(); c++) {
                scope.columns.add(new Ref(happens(0.8) ? columns.get(c) : name + "." + columns.get(c), types.get(c)));
            }
            rules.add("check(" + test(List.of(scope), isWrong() ? 2 : 0) + ")");
        }
        for (int i = 0; i < 2; i++) {
            int column = below(columns.size());
            PlainHall.Table other = hall.tables().isEmpty() ? null : of(hall.tables());
            if (other != null && happens(0.3) && (isWrong() || other.types().get(other.key) == types.get(column))) {
                rules.add("refer(" + columns.get(column) + ")to " + other.name);
            } else if (types.get(column).equals(types.get(key)) && happens(0.15)) {
                rules.add("refer(" + columns.get(column) + ")to " + name);
            }
        }
        Collections.shuffle(rules, random);
        return rules;
    }

    private String change(PlainHall.Table table) {
        List<Scope> scopes = List.of(scopeOf(table));
        String name = isWrong() ? table() : table.name;
        switch (below(7)) {
            case 0:
            case 1:
            case 2:
                return "insert into " + name + " values" + tuples(table);
            case 3:
                return "insert into " + name + " " + query(List.of(), depth, table.types());
            case 4:
                return "delete from " + name + where(table, scopes);
            default:
                int first = below(table.names.size());
                int second = below(table.names.size());
                String set = table.names.get(first) + "=" + sum(table.types().get(first), scopes, depth - 1);
                if (happens(0.2) && (first != second || isWrong())) {
                    set += "," + table.names.get(second) + "=" + sum(table.types().get(second), scopes, depth - 1);
                }
                return "update " + name + " set " + set + where(table, scopes);
        }
    }

    private String where(PlainHall.Table table, List<Scope> scopes) {
        if (happens(0.2)) {
            return "";
        }
        String key = table.names.get(table.key);
        String value = constant(table.types().get(table.key));
        return " where " + (happens(0.5) ? test(scopes, depth) : pick(key + "=" + value, value + sign() + key, key + sign() + value,
                key + ">=" + value + " and " + test(scopes, depth - 1)));
    }

    private String tuples(PlainHall.Table table) {
        String tuples = "";
        for (int i = below(happens(0.1) ? 9 : 3); i >= 0; i--) {
            List<String> values = new ArrayList<>();
            for (int c = 0; c < table.names.size(); c++) {
                char type = table.types().get(c);
                String value = type == WORD && c == table.key ? "'" + (char) ('a' + below(keys)) + pick("", "a", "b") + "'"
                        : constant(type);
                values.add(happens(c == table.key ? 0.01 : 0.1) ? "null" : happens(0.06) ? sum(type, List.of(), depth - 1) : value);
            }
            if (isWrong()) {
                values.add("1");
            }
            tuples += (tuples.isEmpty() ? "(" : ",(") + String.join(",", values) + ")";
        }
        return tuples;
    }

    /** Statements that fill a table up to its last version, and make room again. */
    private String crowding(PlainHall.Table table) {
        String key = table.names.get(table.key);
        boolean isInt = table.types().get(table.key) == INT;
        switch (below(8)) {
            case 0:
                return "update " + table.name + " set " + of(table.names) + "=" + key + where(table, List.of(scopeOf(table)));
            case 1:
                return pick("save p", "rollback to p", "vacuum", "delete from " + table.name + " where " + key
                        + (isInt ? ">" + below(150) : ">'" + pick("b", "h", "s") + "'"));
            case 2:
                return "select*from " + pick(table.name, table.name + "," + table() + " as o", table.name + " limit " + (50 + below(20)));
            default:
                String tuples = "";
                for (int i = below(10); i >= 0; i--) {
                    crowd++;
                    String word = "'" + (char) ('a' + crowd % 26) + (char) ('a' + crowd / 26 % 6) + "'";
                    String[] values = new String[table.names.size()];
                    Arrays.setAll(values, c -> c != table.key && happens(0.7) ? "null"
                            : table.types().get(c) == INT ? "" + crowd % 150 : word);
                    tuples += (tuples.isEmpty() ? "(" : ",(") + String.join(",", values) + ")";
                }
                return "insert into " + table.name + " values" + tuples;
        }
    }
}
