/** The bounds of section 1: values, tables, columns, rules, indexes, views, names, versions. */
public final class ValueEdgeTest {
    /** 2 to the 63rd, which goes round to the least long. */
    private static final String LEAST = "(65536*65536*65536*32768)";
    private static final String GREATEST = "(65536*65536*65536*32768-1)";

    public static void main(String[] args) {
        sumsGoRound();
        keptIntsAreLongs();
        wordsHaveOneToEightLetters();
        wordsAreOrderedAsInADictionary();
        nullIsToldAsZero();
        atMostSixTables();
        numbersOfTablesAreNotUsedAgain();
        atMostTwelveTablesAreMade();
        oneToSixColumns();
        rulesAreNumberedFromZero();
        atMostEightIndexes();
        atMostSixteenIndexesAreMade();
        atMostFourViews();
        namesHaveOneToEightLetters();
        tablesAndViewsShareNames();
        indexesHaveNamesOfTheirOwn();
        anIndexOnAKeyHasNoName();
        atMostAHundredVersions();
        Calls.end("ValueEdgeTest");
    }

    private static Snapshothall one() {
        Snapshothall hall = new Snapshothall();
        Calls.done(hall, "create table o(k int,primary(k));insert into o values(1);");
        return hall;
    }

    private static void ask(String sum, long want) {
        Calls.due(sum, Calls.tell(one(), "select " + sum + " from o;"), "[" + want + "]");
    }

    // "an INT (a long; sums, differences and products go round)"
    private static void sumsGoRound() {
        ask(LEAST, Long.MIN_VALUE);
        ask(GREATEST, Long.MAX_VALUE);
        ask(GREATEST + "+0", Long.MAX_VALUE);
        ask(GREATEST + "+1", Long.MIN_VALUE);
        ask(GREATEST + "+" + GREATEST, -2);
        ask(LEAST + "-0", Long.MIN_VALUE);
        ask(LEAST + "-1", Long.MAX_VALUE);
        ask(LEAST + "+" + LEAST, 0);
        ask("0-" + LEAST, Long.MIN_VALUE);
        ask("-" + LEAST, Long.MIN_VALUE);
        ask("-" + GREATEST, -Long.MAX_VALUE);
        ask(GREATEST + "*1", Long.MAX_VALUE);
        ask(GREATEST + "*2", -2);
        ask(LEAST + "*2", 0);
        ask(LEAST + "*-1", Long.MIN_VALUE);
        ask(LEAST + "/-1", Long.MIN_VALUE);
        ask(LEAST + "%-1", 0);
        ask("sum(k*" + GREATEST + ")+1", Long.MIN_VALUE);
        Snapshothall hall = one();
        Calls.done(hall, "insert into o values(" + GREATEST + ");");
        Calls.play(hall, "select sum(k),max(k),min(k)from o;",
                "[" + Long.MIN_VALUE + "," + Long.MAX_VALUE + ",1]");
    }

    private static void keptIntsAreLongs() {
        Snapshothall hall = one();
        Calls.done(hall, "insert into o values(" + LEAST + "),(" + GREATEST + "),(-1),(0);");
        Calls.play(hall, "select*from o;", "[" + Long.MIN_VALUE + ";-1;0;1;" + Long.MAX_VALUE + "]");
        Calls.due("the least", hall.valueAt(0, 1, 0), Long.MIN_VALUE);
        Calls.due("the greatest", hall.valueAt(0, 2, 0), Long.MAX_VALUE);
        Calls.due("the least cell", hall.cell(0, 0, 0), Long.MIN_VALUE);
        Calls.play(hall, "select k from o where k<" + LEAST + ";select k from o where k<=" + LEAST
                + ";select k from o where k>" + GREATEST + ";select k from o where k>=" + GREATEST + ";",
                "[]", "[" + Long.MIN_VALUE + "]", "[]", "[" + Long.MAX_VALUE + "]");
    }

    // "a WORD (1 to 8 letters a to z)"; "its letters as bytes, the last one lowest"
    private static void wordsHaveOneToEightLetters() {
        Snapshothall hall = one();
        Calls.play(hall, "select 'a','z','ab','abcdefgh','zzzzzzzz'from o;", "[97,122,24930," + 0x6162636465666768L + ","
                + 0x7a7a7a7a7a7a7a7aL + "]");
        Calls.fault("select ^''from o;");
        Calls.fault("select ^'abcdefghi'from o;");
        // The words of the grammar are words like others between signs.
        Calls.play(hall, "select 'select'from o;", "[" + Calls.word("select") + "]");
    }

    // "Words are ordered as in a dictionary."
    private static void wordsAreOrderedAsInADictionary() {
        Snapshothall hall = new Snapshothall();
        Calls.done(hall, "create table w(w word,primary(w));insert into w values('b'),('zzzzzzzz'),('aa'),('z'),"
                + "('abcdefgh'),('a'),('abcdefg'),('aaaaaaaa');insert into w values('abcdefgi'),('ab');");
        StringBuilder want = new StringBuilder("[");
        String[] words = {"a", "aa", "aaaaaaaa", "ab", "abcdefg", "abcdefgh", "abcdefgi", "b", "z", "zzzzzzzz"};
        for (String word : words) {
            want.append(want.length() == 1 ? "" : ";").append(Calls.word(word));
        }
        Calls.play(hall, "select*from w;", want + "]");
        Calls.play(hall, "select w from w order by 1;", want + "]");
        Calls.play(hall, "select count(*)from w where w<'abcdefg';select count(*)from w where w>'abcdefg';"
                + "select max(w),min(w)from w;", "[4]", "[5]", "[" + Calls.word("zzzzzzzz") + ",97]");
        int[] entries = {5, 2, 7, 9, 6, 4, 8, 0, 3, 1};
        for (int i = 0; i < entries.length; i++) {
            Calls.due("entry " + i, hall.entryAt(0, i), entries[i]);
        }
    }

    // "NULL as 0"
    private static void nullIsToldAsZero() {
        Snapshothall hall = new Snapshothall();
        Calls.play(hall, "create table t(k int,a int,w word,primary(k));insert into t values(0,null,null);"
                + "select*from t;", "0", "1", "[0,-,-]");
        for (int c = 0; c < 3; c++) {
            Calls.due("valueAt", hall.valueAt(0, 0, c), 0L);
            Calls.due("cell", hall.cell(2, 0, c), 0L);
            Calls.due("isNull", hall.isNull(2, 0, c), c > 0);
        }
    }

    private static String create(String name) {
        return "create table " + name + "(k int,primary(k));";
    }

    // "There are at most 6 tables"
    private static void atMostSixTables() {
        Snapshothall hall = new Snapshothall();
        for (int i = 0; i < 6; i++) {
            Calls.play(hall, create("t" + (char) ('a' + i)), "0");
            Calls.due("number", hall.tableOf(Calls.word("t" + (char) ('a' + i))), i);
        }
        Calls.leaves(hall, create("tg"), "F");
        Calls.play(hall, "drop table tc;" + create("tg") + create("th"), "0", "0", "F");
        Calls.due("number of the seventh", hall.tableOf(Calls.word("tg")), 6);
    }

    // "numbered from 0 as they are made (the number of a dropped one is not used again"
    private static void numbersOfTablesAreNotUsedAgain() {
        Snapshothall hall = new Snapshothall();
        Calls.play(hall, create("t") + create("u") + "drop table u;" + create("u") + "drop table t;" + create("t"),
                "0", "0", "0", "0", "0", "0");
        Calls.due("u", hall.tableOf(Calls.word("u")), 2);
        Calls.due("t", hall.tableOf(Calls.word("t")), 3);
        Calls.due("table 0", Calls.hasTable(hall, 0), false);
        Calls.due("table 1", Calls.hasTable(hall, 1), false);
        // The numbers of indexes are not used again either.
        Calls.due("index of u", hall.indexOf(2, 0), 2);
        Calls.due("index of t", hall.indexOf(3, 0), 3);
        Calls.due("index 0", Calls.hasIndex(hall, 0), false);
        nothingIsLeftOfOneThatWasRefused();
        // One that could not be made has no number.
        Calls.play(hall, "create table ^t(k int,primary(k));" + create("x"), "N", "0");
        Calls.due("x", hall.tableOf(Calls.word("x")), 4);
    }

    private static void nothingIsLeftOfOneThatWasRefused() {
        Snapshothall hall = new Snapshothall();
        String refused = "(k int not null,b int not null,c word,check(k>0),unique(b),primary(k)";
        Calls.play(hall, "create table ^a" + refused + ",primary(b));1:begin;create table a" + refused + ");rollback;", "N", "0",
                "S", "0");
        hall.setFuse(3, false);
        Calls.play(hall, "create table a" + refused + ");", "P");
        hall.restart();
        Calls.play(hall, "create table ^a(k int,b int);create table a(b int,k int,primary(k));", "N", "0");
        int[] due = {2, 1, 0, 0, 0, 1, 1};
        for (int what = 0; what < due.length; what++) {
            Calls.due("table(0, " + what + ")", hall.table(0, what), due[what]);
        }
        Calls.play(hall, "insert into a values(null,-1),(1,0),(1,1);insert into a values(null,null);select*from a;select ^c from a;",
                "3", "R0", "[-,-1;1,0;1,1]", "N");
    }

    // "12 are made at most"
    private static void atMostTwelveTablesAreMade() {
        Snapshothall hall = new Snapshothall();
        for (int i = 0; i < 11; i++) {
            Calls.play(hall, create("t") + "drop table t;", "0", "0");
        }
        Calls.play(hall, create("t"), "0");
        Calls.due("the twelfth", hall.tableOf(Calls.word("t")), 11);
        Calls.leaves(hall, create("u"), "F");
        Calls.play(hall, "drop table t;", "0");
        Calls.leaves(hall, create("t"), "F");
    }

    // "A table has 1 to 6 columns, each of the type int or word"
    private static void oneToSixColumns() {
        Snapshothall hall = new Snapshothall();
        Calls.play(hall, "create table t(k word,primary(k));create table u(a int,b word,c int,d word,e int,f word,primary(f));",
                "0", "0");
        Calls.due("columns", hall.table(0, 0), 1);
        Calls.due("columns", hall.table(1, 0), 6);
        Calls.due("key", hall.table(1, 6), 5);
        Calls.play(hall, "insert into u values(1,'a',2,'b',3,'c');select*from u;", "1", "[1,97,2,98,3,99]");
        Calls.due("the last value", hall.valueAt(1, 0, 5), 99L);
        Calls.fault("create table t(^primary(k));");
        Calls.fault("create table t(^);");
        Calls.fault("create table t(a int,b int,c int,d int,e int,f int^,g int,primary(a));");
    }

    // "rules, numbered from 0 in the order in which they are told: one primary ..., 6 rules at most"
    private static void rulesAreNumberedFromZero() {
        Snapshothall hall = new Snapshothall();
        Calls.done(hall, create("a") + create("b") + create("c") + create("d") + create("e"));
        Calls.done(hall, "create table f(k int,a int,b int not null,check(a<>0),unique(a,b),refer(a)to e,check(a<>3),"
                + "check(a<>4),primary(k));");
        Calls.due("rules", hall.table(5, 1), 6);
        Calls.due("rules", hall.table(0, 1), 1);
        Calls.done(hall, "insert into e values(0),(1),(3),(4);insert into f values(1,1,1);");
        Calls.play(hall, "insert into f values(2,0,0);insert into f values(2,1,1);insert into f values(2,2,0);"
                + "insert into f values(2,3,0);insert into f values(2,4,0);insert into f values(1,1,2);"
                + "insert into f values(1,1,null);", "R50", "R51", "R52", "R53", "R54", "R55", "R59");
        Calls.play(hall, "insert into a values(null);insert into a values(1);insert into a values(1);", "R0", "1", "R0");
    }

    // "There are at most 8 indexes, numbered likewise ...: with each table comes one on its key"
    private static void atMostEightIndexes() {
        Snapshothall hall = new Snapshothall();
        Calls.done(hall, create("t") + create("u") + "create index a on t(k);create index b on t(k);"
                + "create index c on u(k);create index d on t(k);create index e on t(k);");
        Calls.due("indexes", hall.table(0, 5) + hall.table(1, 5), 7);
        Calls.play(hall, "create index f on u(k);", "0");
        Calls.leaves(hall, "create index g on u(k);", "F");
        Calls.leaves(hall, create("v"), "F");
        Calls.play(hall, "drop index a;" + create("v"), "0", "0");
        Calls.due("index of the new table", hall.indexOf(2, 0), 8);
        Calls.leaves(hall, "create index a on t(k);", "F");
        Calls.play(hall, "drop table v;create index a on t(k);", "0", "0");
        // A table takes its indexes along.
        Calls.play(hall, "drop table t;", "0");
        Calls.due("indexes", hall.table(1, 5), 3);
        for (int i = 0; i < 16; i++) {
            Calls.due("index " + i, Calls.hasIndex(hall, i), i == 1 || i == 4 || i == 7);
        }
    }

    // "(16 are made at most)"
    private static void atMostSixteenIndexesAreMade() {
        Snapshothall hall = new Snapshothall();
        Calls.done(hall, create("t"));
        for (int i = 1; i < 15; i++) {
            Calls.done(hall, "create index i on t(k);drop index i;");
        }
        Calls.play(hall, create("u"), "0");
        Calls.due("the sixteenth", hall.indexOf(1, 0), 15);
        Calls.leaves(hall, "create index i on t(k);", "F");
        Calls.leaves(hall, create("v"), "F");
        hall = new Snapshothall();
        Calls.done(hall, create("t"));
        for (int i = 1; i < 15; i++) {
            Calls.done(hall, "create index i on t(k);drop index i;");
        }
        Calls.play(hall, "create index i on t(k);create index j on t(k);drop index i;create index j on t(k);",
                "0", "F", "0", "F");
    }

    // "There are at most 4 views."
    private static void atMostFourViews() {
        Snapshothall hall = one();
        Calls.done(hall, "create view a as select*from o;create view b as select*from a;create view c as select*from o;");
        Calls.play(hall, "create view d as select*from b;", "0");
        Calls.leaves(hall, "create view e as select*from o;", "F");
        Calls.play(hall, "select*from d;drop view c;create view e as select*from d;select*from e;", "[1]", "0", "0", "[1]");
        // Of views there is no number of those that are made at most.
        for (int i = 0; i < 20; i++) {
            Calls.done(hall, "drop view e;create view e as select k+" + i + " as k from d;");
        }
        Calls.play(hall, "select*from e;", "[20]");
    }

    // "Tables, views and indexes have names, of 1 to 8 letters"
    private static void namesHaveOneToEightLetters() {
        Snapshothall hall = new Snapshothall();
        Calls.done(hall, "create table abcdefgh(columnsx int,primary(columnsx));create view viewviev as select*from "
                + "abcdefgh;create index indexind on abcdefgh(columnsx);create table a(b int,primary(b));"
                + "create view c as select*from a;create index d on a(b);");
        Calls.due("eight letters", hall.tableOf(Calls.word("abcdefgh")), 0);
        Calls.due("one letter", hall.tableOf(97), 1);
        Calls.due("seven of eight letters", hall.tableOf(Calls.word("abcdefg")), Snapshothall.NONE);
        Calls.fault("create table ^abcdefghi(k int,primary(k));");
        Calls.fault("create view ^abcdefghi as select*from t;");
        Calls.fault("create index ^abcdefghi on t(k);");
        Calls.fault("create table t(^abcdefghi int,primary(k));");
    }

    // "no two tables or views have the same name"
    private static void tablesAndViewsShareNames() {
        Snapshothall hall = one();
        Calls.done(hall, "create view v as select*from o;");
        Calls.leaves(hall, "create table ^o(k int,primary(k));", "N");
        Calls.leaves(hall, "create table ^v(k int,primary(k));", "N");
        Calls.leaves(hall, "create view ^o as select*from v;", "N");
        Calls.leaves(hall, "create view ^v as select*from o;", "N");
        Calls.play(hall, "drop view v;create table v(k int,primary(k));drop table v;create view v as select*from o;",
                "0", "0", "0", "0");
    }

    // "no two indexes have the same name"
    private static void indexesHaveNamesOfTheirOwn() {
        Snapshothall hall = one();
        Calls.done(hall, "create table t(o int,primary(o));create index o on o(k);create index t on o(k);");
        Calls.leaves(hall, "create index ^o on t(o);", "N");
        Calls.play(hall, "create view i as select*from o;create index i on o(k);drop index o;create index o on t(o);",
                "0", "0", "0", "0");
    }

    // "an index on a key has none"
    private static void anIndexOnAKeyHasNoName() {
        Snapshothall hall = one();
        Calls.leaves(hall, "drop index ^o;", "N");
        Calls.leaves(hall, "drop index ^k;", "N");
        Calls.due("no table without a name", hall.tableOf(0), Snapshothall.NONE);
        Calls.play(hall, "create index k on o(k);drop index k;", "0", "0");
        Calls.due("index on the key", hall.indexOf(0, 0), 0);
    }

    // "A table has at most 100 versions; they are at places, from 0 on, in the order in which they were made."
    private static void atMostAHundredVersions() {
        Snapshothall hall = new Snapshothall();
        Calls.done(hall, create("t"));
        for (int i = 0; i < 99; i++) {
            Calls.run(hall, "insert into t values(" + (500 - i) + ");");
        }
        Calls.leaves(hall, "insert into t values(1),(2);", "F");
        Calls.play(hall, "insert into t values(1);", "1");
        Calls.leaves(hall, "insert into t values(2);", "F");
        Calls.due("versions", hall.table(0, 2), 100);
        for (int i = 0; i < 100; i++) {
            Calls.due("value at place " + i, hall.valueAt(0, i, 0), i == 99 ? 1L : 500L - i);
        }
        Calls.throwsAlone(hall, "place 100", IndexOutOfBoundsException.class, () -> hall.valueAt(0, 100, 0));
        // Another table has a hundred of its own.
        Calls.play(hall, create("u") + "insert into u values(1);", "0", "1");
    }
}
