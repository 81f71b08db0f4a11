import java.util.ArrayList;
import java.util.HashSet;
import java.util.List;
import java.util.Set;
import java.util.TreeSet;

/** Section 4 done a second time, for PlainHall: all places where NAMES could be told, of which the first one is. */
final class PlainNames {
    private static final char INT = 'i', WORD = 'w', ANY = ' ';

    /** What tells the columns of a table or view: their names, null for none, and types. */
    interface Columns {
        List<String> names();

        List<Character> types();
    }

    private record Named(List<String> names, List<Character> types) implements Columns {
    }

    /** The sources of a block, and how the place that is looked at stands in it. */
    private static final class Scope {
        final List<String> called = new ArrayList<>();
        final List<Columns> sources = new ArrayList<>();
        final List<PlainText.Part> groupedBy = new ArrayList<>();
        int visible;
        boolean isGrouped;
        /** Whether it is behind select or having. */
        boolean isTold;
        boolean isInAggregate;

        void add(String name, Columns columns) {
            called.add(name);
            sources.add(columns);
        }
    }

    private final PlainHall hall;
    private final TreeSet<Integer> wrong = new TreeSet<>();
    private final List<Scope> scopes = new ArrayList<>();
    private boolean isInCheck;

    private PlainNames(PlainHall itsHall) {
        hall = itsHall;
    }

    /** The place of NAMES of a statement; -1 if its names and types are right. */
    static int check(PlainHall hall, PlainText.Statement statement) {
        PlainNames names = new PlainNames(hall);
        names.statement(statement);
        return names.wrong.isEmpty() ? -1 : names.wrong.first();
    }

    private void wrongIf(boolean isWrong, int place) {
        if (isWrong) {
            wrong.add(place);
        }
    }

    private void statement(PlainText.Statement one) {
        String name = one.name == null ? null : one.name.text();
        switch (one.kind) {
            case "create table":
                table(one);
                break;
            case "create index":
                wrongIf(hall.index(name) != null, one.name.place());
                index(one);
                break;
            case "create view":
                wrongIf(hall.source(name) != null, one.name.place());
                query(one.query);
                break;
            case "drop table":
                wrongIf(hall.table(name) == null, one.name.place());
                break;
            case "drop index":
                wrongIf(hall.index(name) == null, one.name.place());
                break;
            case "drop view":
                wrongIf(hall.view(name) == null, one.name.place());
                break;
            case "insert":
            case "update":
            case "delete":
                wrongIf(hall.table(name) == null, one.name.place());
                if (hall.table(name) != null) {
                    change(one, hall.table(name));
                }
                break;
            case "query":
            case "open":
            case "explain":
                query(one.query);
                break;
            default:
                break;
        }
    }

    // ---- create

    private void table(PlainText.Statement one) {
        wrongIf(hall.source(one.name.text()) != null, one.name.place());
        Named made = new Named(new ArrayList<>(), new ArrayList<>());
        for (PlainText.Column column : one.columns) {
            wrongIf(made.names.contains(column.name().text()), column.name().place());
            made.names.add(column.name().text());
            made.types.add(column.type());
        }
        List<Character> keys = new ArrayList<>();
        for (PlainText.Rule rule : one.rules) {
            if (rule.kind().equals("primary")) {
                keys.add(typeOf(made, rule.columns().get(0).text()));
            }
        }
        wrongIf(keys.size() != 1, one.name.place());
        Scope scope = new Scope();
        scope.add(one.name.text(), made);
        scope.visible = 1;
        scopes.add(scope);
        isInCheck = true;
        for (PlainText.Rule rule : one.rules) {
            columns(rule.columns(), made);
            if (rule.test() != null) {
                test(rule.test());
            }
            if (rule.other() != null) {
                PlainHall.Table other = hall.table(rule.other().text());
                boolean isItself = rule.other().text().equals(one.name.text());
                char key = isItself ? keys.isEmpty() ? ANY : keys.get(0) : other == null ? ANY : other.types().get(other.key);
                wrongIf(!isItself && other == null || !fits(key, typeOf(made, rule.columns().get(0).text())),
                        rule.other().place());
            }
        }
    }

    private static char typeOf(Columns columns, String name) {
        int at = columns.names().indexOf(name);
        return at < 0 ? ANY : columns.types().get(at);
    }

    /** A list of columns, each of which has to be there, and none twice. */
    private void columns(List<PlainText.Token> list, Columns of) {
        Set<String> had = new HashSet<>();
        for (PlainText.Token column : list) {
            wrongIf(!of.names().contains(column.text()) || !had.add(column.text()), column.place());
        }
    }

    private void index(PlainText.Statement one) {
        PlainHall.Table of = hall.table(one.other.text());
        wrongIf(of == null, one.other.place());
        if (of != null) {
            columns(one.names, of);
        }
    }

    // ---- changes

    private void change(PlainText.Statement one, PlainHall.Table table) {
        Scope scope = new Scope();
        scopes.add(scope);
        for (PlainText.Tuple tuple : one.tuples) {
            for (int i = 0; i < tuple.sums().size(); i++) {
                char type = sum(tuple.sums().get(i));
                wrongIf(i >= table.types().size() || !fits(type, table.types().get(i)), tuple.sums().get(i).place);
            }
            wrongIf(tuple.sums().size() < table.types().size(), tuple.end());
        }
        if (one.is("insert") && one.query != null) {
            scopes.clear();
            query(one.query);
            put(one.query, table);
            return;
        }
        scope.add(table.name, table);
        scope.visible = 1;
        List<PlainText.Token> set = new ArrayList<>();
        for (PlainText.Setting setting : one.settings) {
            set.add(setting.column());
            wrongIf(!fits(sum(setting.sum()), typeOf(table, setting.column().text())), setting.sum().place);
        }
        columns(set, table);
        if (one.where != null) {
            test(one.where);
        }
    }

    private void put(PlainText.Query query, PlainHall.Table table) {
        PlainText.Block first = query.blocks.get(0);
        for (int i = 0; i < first.types.size(); i++) {
            boolean isWrong = i >= table.types().size() || !fits(typeOf(query, i), table.types().get(i));
            wrongIf(isWrong, first.star >= 0 ? first.star : first.items.get(i).sum().place);
        }
        wrongIf(first.types.size() < table.types().size(), first.from);
    }

    // ---- queries

    private static boolean fits(char type, char other) {
        return type == ANY || other == ANY || type == other;
    }

    /** The type of a column of the answer of a query; ANY if it has none. */
    static char typeOf(PlainText.Query query, int column) {
        for (PlainText.Block block : query.blocks) {
            if (column < block.types.size() && block.types.get(column) != ANY) {
                return block.types.get(column);
            }
        }
        return ANY;
    }

    private void query(PlainText.Query query) {
        for (PlainText.Block block : query.blocks) {
            block(block);
        }
        List<Character> first = query.blocks.get(0).types;
        List<Character> types = new ArrayList<>(first);
        for (PlainText.Block block : query.blocks) {
            wrongIf(block.types.size() != first.size(), block.place);
            for (int i = 0; i < Math.min(first.size(), block.types.size()); i++) {
                wrongIf(!fits(types.get(i), block.types.get(i)), block.place);
                types.set(i, types.get(i) == ANY ? block.types.get(i) : types.get(i));
            }
        }
        for (PlainText.Key key : query.keys) {
            wrongIf(key.item() < 1 || key.item() > first.size(), key.place());
        }
    }

    private void block(PlainText.Block block) {
        Scope scope = new Scope();
        scopes.add(scope);
        for (PlainText.Source source : block.sources) {
            Columns columns = hall.source(source.name());
            wrongIf(columns == null || scope.called.contains(source.called()), source.place());
            scope.add(source.called(), columns == null ? new Named(List.of(), List.of()) : columns);
            scope.visible++;
            if (source.on() != null) {
                test(source.on());
            }
        }
        if (block.where != null) {
            test(block.where);
        }
        for (PlainText.Part ref : block.groupedBy) {
            sum(ref);
        }
        scope.isGrouped = PlainText.isGrouped(block);
        scope.groupedBy.addAll(block.groupedBy);
        scope.isTold = true;
        block.types = new ArrayList<>();
        if (block.star >= 0) {
            wrongIf(scope.isGrouped, block.star);
            for (Columns source : scope.sources) {
                block.types.addAll(source.types());
            }
        }
        for (PlainText.Item item : block.items) {
            block.types.add(sum(item.sum()));
        }
        if (block.having != null) {
            test(block.having);
        }
        scopes.remove(scopes.size() - 1);
    }

    // ---- tests

    private void test(PlainText.Part test) {
        if (test.query != null && isInCheck) {
            wrong.add(test.query.place);
            test.parts.forEach(this::sum);
            return;
        }
        switch (test.kind) {
            case "or":
            case "and":
            case "not":
            case "brackets":
                test.parts.forEach(this::test);
                break;
            case "exists":
                query(test.query);
                break;
            default:
                char type = ANY;
                for (PlainText.Part part : test.parts) {
                    char one = sum(part);
                    wrongIf(!fits(type, one), part.place);
                    type = type == ANY ? one : type;
                }
                if (test.query != null) {
                    query(test.query);
                    int items = test.query.blocks.get(0).types.size();
                    wrongIf(items > 1 || items == 1 && !fits(type, typeOf(test.query, 0)), test.query.place);
                }
        }
    }

    // ---- sums

    private char sum(PlainText.Part sum) {
        switch (sum.kind) {
            case "number":
                return INT;
            case "word":
                return WORD;
            case "round":
                return sum(sum.part(0));
            case "minus":
            case "reckoning":
                return reckoning(sum);
            case "case":
                test(sum.part(0));
                return either(sum.part(1), sum.part(2));
            case "coalesce":
                return either(sum.part(0), sum.part(1));
            case "aggregate":
                return aggregate(sum);
            case "ref":
                return ref(sum);
            default:
                return ANY;
        }
    }

    private char reckoning(PlainText.Part sum) {
        char type = ANY;
        for (PlainText.Part part : sum.parts) {
            char one = sum(part);
            wrongIf(one == WORD, part.place);
            type = one == ANY ? type : INT;
        }
        return type;
    }

    private char either(PlainText.Part first, PlainText.Part second) {
        char type = sum(first);
        char other = sum(second);
        wrongIf(!fits(type, other), second.place);
        return type == ANY ? other : type;
    }

    private char aggregate(PlainText.Part sum) {
        Scope scope = scopes.get(scopes.size() - 1);
        wrongIf(!scope.isTold || scope.isInAggregate, sum.place);
        if (sum.name.equals("count(*)")) {
            return INT;
        }
        boolean wasInAggregate = scope.isInAggregate;
        scope.isInAggregate = true;
        char type = sum(sum.part(0));
        scope.isInAggregate = wasInAggregate;
        wrongIf(sum.name.equals("sum") && type == WORD, sum.part(0).place);
        return sum.name.equals("count") ? INT : sum.name.equals("sum") && type != ANY ? INT : type;
    }

    /** A ref: of the innermost block that has a column that fits, the first such column is the one it tells. */
    private char ref(PlainText.Part ref) {
        ref.outward = -1;
        for (int outward = 0; outward < scopes.size() && ref.outward < 0; outward++) {
            Scope scope = scopes.get(scopes.size() - 1 - outward);
            int fitting = 0;
            for (int s = scope.visible - 1; s >= 0; s--) {
                List<String> names = scope.sources.get(s).names();
                for (int c = names.size() - 1; c >= 0; c--) {
                    if (ref.name.equals(names.get(c)) && (ref.ahead == null || ref.ahead.equals(scope.called.get(s)))) {
                        fitting++;
                        ref.outward = outward;
                        ref.source = s;
                        ref.column = c;
                    }
                }
            }
            if (fitting > 0) {
                wrongIf(fitting > 1 || isLoose(ref, scope), ref.place);
                return scope.sources.get(ref.source).types().get(ref.column);
            }
        }
        wrong.add(ref.place);
        return ANY;
    }

    private static boolean isLoose(PlainText.Part ref, Scope scope) {
        boolean isLoose = scope.isGrouped && scope.isTold && !scope.isInAggregate;
        for (PlainText.Part by : scope.groupedBy) {
            isLoose &= by.outward != 0 || by.source != ref.source || by.column != ref.column;
        }
        return isLoose;
    }
}
