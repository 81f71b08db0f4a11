import java.util.ArrayList;
import java.util.HashSet;
import java.util.List;
import java.util.Set;
import java.util.regex.Matcher;
import java.util.regex.Pattern;

/** Section 2 done a second time, for PlainHall: reads texts by the document's own grammar into parts. */
final class PlainText {
    private static final String GRAMMAR = """
            script    = { [ digit ":" ] statement ";" }
            statement = "create" "table" name "(" column { "," column } { "," rule } ")"
                      | "create" "index" name "on" name "(" name { "," name } ")" | "create" "view" name "as" query
                      | "drop" "table" name | "drop" "index" name | "drop" "view" name
                      | "insert" "into" name ( "values" tuple { "," tuple } | query )
                      | "update" name "set" name "=" sum { "," name "=" sum } [ "where" test ]
                      | "delete" "from" name [ "where" test ] | query | "begin" [ "snapshot" ] | "commit"
                      | "rollback" [ "to" name ] | "save" name | "open" name "for" query | "fetch" name number
                      | "close" name | "explain" query | "vacuum" | "analyze"
            column    = name ( "int" | "word" ) [ "not" "null" ]
            rule      = "primary" "(" name ")" | "unique" "(" name { "," name } ")" | "check" "(" test ")"
                      | "refer" "(" name ")" "to" name
            query     = block { ( "union" | "except" ) block } [ "order" "by" key { "," key } ]
                        [ "limit" number [ "offset" number ] ]
            block     = "select" [ "distinct" ] ( "*" | item { "," item } ) "from" source { "," source
                      | "join" source "on" test | "left" "join" source "on" test } [ "where" test ]
                        [ "group" "by" ref { "," ref } ] [ "having" test ]
            key       = number [ "down" ]
            test      = all { "or" all }
            all       = one { "and" one }
            one       = "not" one | "[" test "]" | "exists" "(" query ")" | sum ( sign sum | "is" [ "not" ] "null"
                      | [ "not" ] "in" "(" ( query | sum { "," sum } ) ")" | [ "not" ] "between" sum "and" sum )
            sign      = "=" | "<" | "<=" | ">" | ">=" | "<>"
            sum       = term { ( "+" | "-" ) term }
            term      = unit { ( "*" | "/" | "%" ) unit }
            unit      = number | word | "null" | ref | "-" unit | "(" sum ")" | "case" "when" test "then" sum "else" sum "end"
                      | "coalesce" "(" sum "," sum ")" | "count" "(" "*" ")"
                      | ( "count" | "sum" | "min" | "max" ) "(" [ "distinct" ] sum ")"
            ref       = name [ "." name ]
            """;
    /** The kinds of tokens that are no word or sign of the grammar. */
    private static final String NAME = "a name", NUMBER = "a number", QUOTED = "a word", END = "the end", BAD = "none";
    private static final Set<String> WORDS = new HashSet<>();
    private static final List<String> SIGNS = new ArrayList<>();
    private static final String LETTERS = "[a-z]+", DIGITS = "[0-9]+";

    static {
        Matcher quoted = Pattern.compile("\"([^\"]+)\"").matcher(GRAMMAR);
        while (quoted.find()) {
            (quoted.group(1).matches(LETTERS) ? WORDS : SIGNS).add(quoted.group(1));
        }
        SIGNS.sort((a, b) -> b.length() - a.length());
    }

    // ---- the parts of a text

    record Token(String kind, String text, int place) {
    }

    /** A part of a test or a sum; a ref tells its source by how many blocks it goes out, and its column. */
    static final class Part {
        final String kind;
        final int place;
        final List<Part> parts = new ArrayList<>();
        final List<String> signs = new ArrayList<>();
        String name;
        String ahead;
        long number;
        boolean isNot;
        boolean isDistinct;
        Query query;
        int outward = -1;
        int source;
        int column;

        Part(String itsKind, int itsPlace, Part... of) {
            kind = itsKind;
            place = itsPlace;
            parts.addAll(List.of(of));
        }

        boolean is(String itsKind) {
            return kind.equals(itsKind);
        }

        Part part(int i) {
            return parts.get(i);
        }
    }

    record Key(long item, int place, boolean isDown) {
    }

    record Item(Part sum, String as) {
    }

    record Source(String name, String called, int place, String how, Part on) {
    }

    static final class Block {
        int place;
        int star = -1;
        int from;
        boolean isDistinct;
        final List<Item> items = new ArrayList<>();
        final List<Source> sources = new ArrayList<>();
        Part where;
        final List<Part> groupedBy = new ArrayList<>();
        Part having;
        /** The types of its items, as PlainNames finds them. */
        List<Character> types;
    }

    static final class Query {
        int place;
        final List<Block> blocks = new ArrayList<>();
        final List<String> joins = new ArrayList<>();
        final List<Key> keys = new ArrayList<>();
        long limit = Long.MAX_VALUE;
        long offset;
    }

    record Column(Token name, char type, boolean isNotNull) {
    }

    record Rule(String kind, List<Token> columns, Part test, Token other) {
    }

    record Tuple(List<Part> sums, int end) {
    }

    record Setting(Token column, Part sum) {
    }

    static final class Statement {
        String kind;
        int session;
        int place;
        int end;
        Token name;
        Token other;
        final List<Column> columns = new ArrayList<>();
        final List<Rule> rules = new ArrayList<>();
        final List<Token> names = new ArrayList<>();
        final List<Tuple> tuples = new ArrayList<>();
        final List<Setting> settings = new ArrayList<>();
        Query query;
        Part where;
        boolean isSnapshot;
        int number;

        boolean is(String... kinds) {
            return List.of(kinds).contains(kind);
        }
    }

    private static final class Fault extends RuntimeException {
        final int place;

        Fault(int itsPlace) {
            super("a fault at " + itsPlace);
            place = itsPlace;
        }
    }

    // ---- tokens

    private final String text;
    private final List<Token> tokens = new ArrayList<>();
    private int at;
    private int open;

    private PlainText(String itsText) {
        text = itsText;
        int place = 0;
        while (tokens.isEmpty() || !kindAt(tokens.size() - 1).equals(END) && !kindAt(tokens.size() - 1).equals(BAD)) {
            while (place < text.length() && text.charAt(place) == ' ') {
                place++;
            }
            tokens.add(tokenAt(place));
            place += Math.max(1, tokens.get(tokens.size() - 1).text.length());
        }
    }

    private Token tokenAt(int place) {
        if (place >= text.length()) {
            return new Token(END, "", text.length());
        }
        String letters = prefix(place, LETTERS);
        if (letters != null) {
            return new Token(letters.length() > 8 ? BAD : WORDS.contains(letters) ? letters : NAME, letters, place);
        }
        String digits = prefix(place, DIGITS);
        if (digits != null) {
            return new Token(digits.length() > 9 ? BAD : NUMBER, digits, place);
        }
        String quoted = prefix(place, "'[a-z]{1,8}'");
        if (quoted != null) {
            return new Token(QUOTED, quoted, place);
        }
        for (String sign : SIGNS) {
            if (text.startsWith(sign, place)) {
                return new Token(sign, sign, place);
            }
        }
        return new Token(BAD, "", place);
    }

    private String prefix(int place, String pattern) {
        Matcher matcher = Pattern.compile(pattern).matcher(text);
        matcher.region(place, text.length());
        return matcher.lookingAt() ? matcher.group() : null;
    }

    private String kindAt(int i) {
        return tokens.get(Math.min(i, tokens.size() - 1)).kind;
    }

    private int place() {
        return tokens.get(at).place;
    }

    private boolean is(String... kinds) {
        return List.of(kinds).contains(kindAt(at));
    }

    private Fault fault() {
        return new Fault(place());
    }

    private Token need(String kind) {
        if (!is(kind)) {
            throw fault();
        }
        at++;
        return tokens.get(at - 1);
    }

    private boolean take(String kind) {
        boolean is = is(kind);
        at += is ? 1 : 0;
        return is;
    }

    /** One more of those of which eight can be open at one time. */
    private void enter(String kind) {
        if (open == 8) {
            throw fault();
        }
        need(kind);
        open++;
    }

    private void leave(String kind) {
        need(kind);
        open--;
    }

    // ---- statements

    /** The place of the fault of a text; -1 if it has none. */
    static int fault(String text) {
        try {
            read(text);
            return -1;
        } catch (Fault e) {
            return e.place;
        }
    }

    static List<Statement> read(String text) {
        PlainText reader = new PlainText(text);
        List<Statement> script = new ArrayList<>();
        int session = 0;
        while (!reader.is(END)) {
            if (script.size() == 40 || reader.is(NUMBER) && !reader.tokens.get(reader.at).text.matches("[0-3]")) {
                throw reader.fault();
            }
            if (reader.is(NUMBER)) {
                session = Integer.parseInt(reader.need(NUMBER).text);
                reader.need(":");
            }
            Statement one = reader.statement();
            one.session = session;
            one.end = reader.place();
            reader.need(";");
            script.add(one);
        }
        return script;
    }

    private Statement statement() {
        Statement one = new Statement();
        one.place = place();
        if (is("select")) {
            one.kind = "query";
            one.query = query();
            return one;
        }
        if (!is("create", "drop", "insert", "update", "delete", "begin", "commit", "rollback", "save", "open", "fetch",
                "close", "explain", "vacuum", "analyze")) {
            throw fault();
        }
        one.kind = kindAt(at);
        at++;
        if (one.is("create", "drop")) {
            define(one);
        } else if (one.is("insert", "update", "delete")) {
            change(one);
        } else {
            control(one);
        }
        return one;
    }

    private void define(Statement one) {
        if (!is("table", "index", "view")) {
            throw fault();
        }
        one.kind = one.kind + " " + kindAt(at);
        at++;
        one.name = need(NAME);
        if (one.is("create table")) {
            table(one);
        } else if (one.is("create index")) {
            need("on");
            one.other = need(NAME);
            enter("(");
            one.names.addAll(names());
            leave(")");
        } else if (one.is("create view")) {
            need("as");
            one.query = query();
        }
    }

    private List<Token> names() {
        List<Token> names = new ArrayList<>();
        do {
            names.add(need(NAME));
        } while (take(","));
        return names;
    }

    private void table(Statement one) {
        enter("(");
        one.columns.add(column());
        while (is(",")) {
            boolean isColumn = one.rules.isEmpty() && kindAt(at + 1).equals(NAME);
            if (one.rules.size() == 6 || isColumn && one.columns.size() == 6) {
                throw fault();
            }
            at++;
            if (isColumn) {
                one.columns.add(column());
            } else {
                one.rules.add(rule());
            }
        }
        leave(")");
    }

    private Column column() {
        Token name = need(NAME);
        if (!is("int", "word")) {
            throw fault();
        }
        char type = kindAt(at).charAt(0);
        at++;
        boolean isNotNull = take("not");
        if (isNotNull) {
            need("null");
        }
        return new Column(name, type, isNotNull);
    }

    private Rule rule() {
        // Behind the columns of a table that has fewer than six, one more of them could begin as well.
        if (!is("primary", "unique", "check", "refer")) {
            throw fault();
        }
        String kind = kindAt(at);
        at++;
        enter("(");
        Part test = kind.equals("check") ? test() : null;
        List<Token> columns = kind.equals("unique") ? names() : test == null ? List.of(need(NAME)) : List.of();
        leave(")");
        Token other = null;
        if (kind.equals("refer")) {
            need("to");
            other = need(NAME);
        }
        return new Rule(kind, columns, test, other);
    }

    private void change(Statement one) {
        if (one.is("insert")) {
            need("into");
        } else if (one.is("delete")) {
            need("from");
        }
        one.name = need(NAME);
        if (one.is("insert") && is("select")) {
            one.query = query();
        } else if (one.is("insert")) {
            need("values");
            do {
                one.tuples.add(tuple());
            } while (one.tuples.size() < 10 && take(","));
        } else if (one.is("update")) {
            need("set");
            do {
                Token column = need(NAME);
                need("=");
                one.settings.add(new Setting(column, sum()));
            } while (take(","));
        }
        one.where = !one.is("insert") && take("where") ? test() : null;
    }

    private Tuple tuple() {
        enter("(");
        List<Part> sums = new ArrayList<>();
        do {
            sums.add(sum());
        } while (take(","));
        int end = place();
        leave(")");
        return new Tuple(sums, end);
    }

    private void control(Statement one) {
        if (one.is("begin")) {
            one.isSnapshot = take("snapshot");
        } else if (one.is("rollback") && take("to")) {
            one.kind = "rollback to";
        }
        if (one.is("rollback to", "save", "open", "fetch", "close")) {
            one.name = need(NAME);
        }
        if (one.is("open")) {
            need("for");
        }
        if (one.is("open", "explain")) {
            one.query = query();
        } else if (one.is("fetch")) {
            one.number = Integer.parseInt(need(NUMBER).text);
        }
    }

    // ---- queries

    private Query query() {
        Query query = new Query();
        query.place = place();
        String join = "";
        do {
            query.joins.add(join);
            query.blocks.add(block());
            join = kindAt(at);
        } while (query.blocks.size() < 3 && (take("union") || take("except")));
        if (take("order")) {
            need("by");
            do {
                Token item = need(NUMBER);
                query.keys.add(new Key(Long.parseLong(item.text), item.place, take("down")));
            } while (query.keys.size() < 3 && take(","));
        }
        if (take("limit")) {
            query.limit = Long.parseLong(need(NUMBER).text);
            query.offset = take("offset") ? Long.parseLong(need(NUMBER).text) : 0;
        }
        return query;
    }

    private Block block() {
        Block block = new Block();
        block.place = place();
        need("select");
        block.isDistinct = take("distinct");
        if (is("*")) {
            block.star = need("*").place;
        } else {
            do {
                Part sum = sum();
                block.items.add(new Item(sum, take("as") ? need(NAME).text : null));
            } while (block.items.size() < 10 && take(","));
        }
        block.from = place();
        need("from");
        block.sources.add(source(""));
        while (block.sources.size() < 3 && is(",", "join", "left")) {
            String how = kindAt(at);
            at++;
            if (how.equals("left")) {
                need("join");
            }
            block.sources.add(source(how));
        }
        block.where = take("where") ? test() : null;
        if (take("group")) {
            need("by");
            do {
                block.groupedBy.add(ref());
            } while (block.groupedBy.size() < 3 && take(","));
        }
        block.having = take("having") ? test() : null;
        return block;
    }

    private Source source(String how) {
        Token name = need(NAME);
        String called = take("as") ? need(NAME).text : name.text;
        Part on = null;
        if (how.equals("join") || how.equals("left")) {
            need("on");
            on = test();
        }
        return new Source(name.text, called, name.place, how, on);
    }

    // ---- tests

    private Part test() {
        Part test = new Part("or", place());
        do {
            test.parts.add(all());
        } while (take("or"));
        return test.parts.size() == 1 ? test.part(0) : test;
    }

    private Part all() {
        Part all = new Part("and", place());
        do {
            all.parts.add(one());
        } while (take("and"));
        return all.parts.size() == 1 ? all.part(0) : all;
    }

    private Part one() {
        int place = place();
        if (is("not")) {
            enter("not");
            Part one = new Part("not", place, one());
            open--;
            return one;
        }
        if (is("[")) {
            enter("[");
            Part one = new Part("brackets", place, test());
            leave("]");
            return one;
        }
        if (take("exists")) {
            Part one = new Part("exists", place);
            enter("(");
            one.query = query();
            leave(")");
            return one;
        }
        Part left = sum();
        if (is("=", "<", "<=", ">", ">=", "<>")) {
            String sign = kindAt(at);
            at++;
            Part one = new Part("compare", place, left, sum());
            one.signs.add(sign);
            return one;
        }
        if (take("is")) {
            Part one = new Part("is null", place, left);
            one.isNot = take("not");
            need("null");
            return one;
        }
        return within(place, left);
    }

    private Part within(int place, Part left) {
        boolean isNot = take("not");
        Part one = new Part(is("in") ? "in" : "between", place, left);
        one.isNot = isNot;
        if (take("in")) {
            enter("(");
            if (is("select")) {
                one.query = query();
            } else {
                do {
                    one.parts.add(sum());
                } while (one.parts.size() < 7 && take(","));
            }
            leave(")");
            return one;
        }
        need("between");
        one.parts.add(sum());
        need("and");
        one.parts.add(sum());
        return one;
    }

    // ---- sums

    private Part sum() {
        Part sum = new Part("reckoning", place());
        String sign = "";
        do {
            sum.signs.add(sign);
            sum.parts.add(term());
            sign = kindAt(at);
        } while (take("+") || take("-"));
        return sum.parts.size() == 1 ? sum.part(0) : sum;
    }

    private Part term() {
        Part term = new Part("reckoning", place());
        String sign = "";
        do {
            term.signs.add(sign);
            term.parts.add(unit());
            sign = kindAt(at);
        } while (take("*") || take("/") || take("%"));
        return term.parts.size() == 1 ? term.part(0) : term;
    }

    private Part ref() {
        Part ref = new Part("ref", place());
        ref.name = need(NAME).text;
        if (take(".")) {
            ref.ahead = ref.name;
            ref.name = need(NAME).text;
        }
        return ref;
    }

    private Part unit() {
        int place = place();
        if (is(NAME)) {
            return ref();
        }
        if (is(NUMBER, QUOTED, "null")) {
            Part unit = new Part(is(NUMBER) ? "number" : is(QUOTED) ? "word" : "null", place);
            String told = need(kindAt(at)).text;
            unit.number = unit.is("number") ? Long.parseLong(told) : 0;
            unit.name = unit.is("word") ? told.substring(1, told.length() - 1) : null;
            return unit;
        }
        if (is("-")) {
            enter("-");
            Part unit = new Part("minus", place, unit());
            open--;
            return unit;
        }
        if (is("(")) {
            enter("(");
            Part unit = new Part("round", place, sum());
            leave(")");
            return unit;
        }
        return is("case") ? choice() : is("coalesce") ? coalesce() : aggregate();
    }

    private Part choice() {
        Part choice = new Part("case", place());
        enter("case");
        need("when");
        choice.parts.add(test());
        need("then");
        choice.parts.add(sum());
        need("else");
        choice.parts.add(sum());
        leave("end");
        return choice;
    }

    private Part coalesce() {
        Part coalesce = new Part("coalesce", place());
        need("coalesce");
        enter("(");
        coalesce.parts.add(sum());
        need(",");
        coalesce.parts.add(sum());
        leave(")");
        return coalesce;
    }

    private Part aggregate() {
        if (!is("count", "sum", "min", "max")) {
            throw fault();
        }
        Part aggregate = new Part("aggregate", place());
        aggregate.name = kindAt(at);
        at++;
        enter("(");
        if (aggregate.name.equals("count") && take("*")) {
            aggregate.name = "count(*)";
        } else {
            aggregate.isDistinct = take("distinct");
            aggregate.parts.add(sum());
        }
        leave(")");
        return aggregate;
    }

    // ---- what stands in parts

    /** The queries that stand in a part, not within another one of these. */
    static void addQueries(Part part, List<Query> to) {
        if (part == null) {
            return;
        }
        if (part.query != null) {
            to.add(part.query);
        }
        for (Part one : part.parts) {
            addQueries(one, to);
        }
    }

    /** The queries that stand in a block, not within another one of these. */
    static List<Query> queriesIn(Block block) {
        List<Query> queries = new ArrayList<>();
        for (Item item : block.items) {
            addQueries(item.sum, queries);
        }
        for (Source source : block.sources) {
            addQueries(source.on, queries);
        }
        addQueries(block.where, queries);
        addQueries(block.having, queries);
        return queries;
    }

    /** All blocks of a query, with those of the queries in them. */
    static List<Block> blocksIn(Query query) {
        List<Block> blocks = new ArrayList<>();
        for (Block block : query.blocks) {
            blocks.add(block);
            for (Query inner : queriesIn(block)) {
                blocks.addAll(blocksIn(inner));
            }
        }
        return blocks;
    }

    /** The queries of a statement, not within another one of these. */
    static List<Query> queriesOf(Statement statement) {
        List<Query> queries = new ArrayList<>();
        if (statement.query != null) {
            queries.add(statement.query);
        }
        for (Tuple tuple : statement.tuples) {
            for (Part sum : tuple.sums) {
                addQueries(sum, queries);
            }
        }
        for (Setting setting : statement.settings) {
            addQueries(setting.sum, queries);
        }
        addQueries(statement.where, queries);
        return queries;
    }

    static boolean isGrouped(Block block) {
        boolean isGrouped = !block.groupedBy.isEmpty() || block.having != null;
        for (Item item : block.items) {
            isGrouped |= hasAggregate(item.sum);
        }
        return isGrouped;
    }

    private static boolean hasAggregate(Part part) {
        boolean has = part.is("aggregate");
        for (Part one : part.parts) {
            has |= hasAggregate(one);
        }
        return has;
    }

    /** The parts that the ands of a test join; none if it has an or at its top. */
    static List<Part> partsOf(Part test) {
        return test == null || test.is("or") ? List.of() : test.is("and") ? test.parts : List.of(test);
    }
}
