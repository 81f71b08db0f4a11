/** The bounds of section 9, and of promises 13 to 15: marks, ranges, concurrent transactions, edges, conflicts, order. */
public final class MarkEdgeTest {
    private static final String LEAST = "65536*65536*65536*32768";
    private static final String GREATEST = "65536*65536*65536*32768-1";

    public static void main(String[] args) {
        marksOfEachSource();
        marksOfViewsAndTests();
        marksOfRules();
        rulesMarkInSoFarAsTheyAreLookedAt();
        marksOfEndedVersions();
        likeMarksAreCounted();
        whatGivesNoMarks();
        refusalsAndMarks();
        rangesBySigns();
        rangesAtTheLeastAndGreatest();
        rangesOfSeveralParts();
        rangesOfNull();
        partsThatAreNone();
        rangesOfWords();
        sourcesWithAllKeys();
        rangesOfUpdatesAndDeletes();
        marksOfValues();
        concurrentIfBegunAheadOfTheCommit();
        marksOfOneThatCommitted();
        edgesOfBothVersions();
        edgesWhicheverCameFirst();
        edgesOfSerializableOnes();
        edgesOfOnesRolledBack();
        edgesToWhatWasTakenBack();
        edgesBehindVacuumAndRestart();
        edgesOfGreatNumbers();
        likeValuesInOtherColumns();
        noEdgeToItself();
        twoWithEdgesToEachOther();
        oneInTheMiddle();
        oneInTheMiddleThatCommitted();
        conflictInPlaceOfRule();
        conflictOfItsOwnStatement();
        orderByNumbersCommitsAndEdges();
        tellingOfEdgesAndOrder();
        Calls.end("MarkEdgeTest");
    }

    private static Snapshothall hall() {
        Snapshothall hall = new Snapshothall();
        Calls.done(hall, "create table t(k int,a int,primary(k),unique(a));insert into t values(1,10),(2,20);");
        return hall;
    }

    /** The marks that a statement of its own gets. */
    private static void marks(Snapshothall hall, String statement, int want) {
        Calls.run(hall, statement + ";");
        Calls.due("marks of " + statement, hall.transaction(hall.transactions() - 1, 6), want);
    }

    // "for each source of each block of its queries"; "and for the table of an update or delete"
    private static void marksOfEachSource() {
        Snapshothall hall = hall();
        marks(hall, "select*from t", 1);
        marks(hall, "select*from t where k=null", 1);
        marks(hall, "select*from t,t as x", 2);
        marks(hall, "select*from t,t as x,t as y", 3);
        marks(hall, "select t.k from t left join t as x on 1=2", 2);
        marks(hall, "select k from t union select k from t except select x.k from t as x,t as y", 4);
        marks(hall, "select k from t limit 0", 1);
        marks(hall, "delete from t where k>9", 1);
        marks(hall, "update t set a=5 where k>9", 1);
        marks(hall, "update t set a=5 where 1=2 and exists(select*from t as x,t as y)", 3);
        marks(hall, "insert into t select*from t where k>9", 1);
        Calls.done(hall, "begin;open c for select*from t,t as x;");
        Calls.due("marks of open", hall.transaction(hall.transactions() - 1, 6), 2);
        Calls.done(hall, "fetch c 1;close c;commit;");
        Calls.due("marks of fetch and close", hall.transaction(hall.transactions() - 1, 6), 2);
    }

    // "(of those in tests and views too)"
    private static void marksOfViewsAndTests() {
        Snapshothall hall = hall();
        Calls.done(hall, "create view v as select t.k from t,t as x where exists(select*from t as y);"
                + "create view w as select v.k from v,t;");
        marks(hall, "select*from v", 3);
        marks(hall, "select*from w", 4);
        marks(hall, "select v.k from v,v as z", 6);
        marks(hall, "select 1 from t where 1=2 and exists(select*from v)", 4);
        marks(hall, "select 1 from t where k in(select k from t)", 2);
        marks(hall, "select case when exists(select*from t)then 1 else 2 end from t", 2);
        marks(hall, "insert into t values(case when exists(select*from v)then 1 else 2 end,10)", 4);
        marks(hall, "delete from t where k=9 and exists(select*from w)", 5);
    }

    // "for each version made, of each rule of it, in so far as it is looked at: primary and unique: ...; refer: ..."
    private static void marksOfRules() {
        Snapshothall hall = new Snapshothall();
        Calls.done(hall, "create table o(k int,primary(k));insert into o values(1),(2);create table t(k int,a int,b int,"
                + "primary(k),check(k<9),unique(a),unique(a,b),refer(a)to o,refer(b)to o);");
        marks(hall, "insert into o values(7)", 1);
        marks(hall, "insert into t values(1,1,1)", 5);
        marks(hall, "insert into t values(2,null,1)", 2);
        marks(hall, "insert into t values(3,2,null)", 3);
        marks(hall, "insert into t values(4,null,null)", 1);
        marks(hall, "insert into t values(5,null,null),(6,null,null),(7,null,null)", 3);
        marks(hall, "update t set b=2 where k=1", 6);
        marks(hall, "update t set b=null where k>3", 5);
        // Of a check there is none.
        Calls.done(hall, "create table c(k int,check(k>0),primary(k),check(k<5));");
        marks(hall, "insert into c values(1)", 1);
    }

    // "in so far as it is looked at": up to the rule that refuses, that one too
    private static void rulesMarkInSoFarAsTheyAreLookedAt() {
        Snapshothall hall = new Snapshothall();
        Calls.done(hall, "create table o(k int,primary(k));insert into o values(1);create table t(k int,a int,b int not null,"
                + "unique(a),primary(k),check(b<5),refer(b)to o);insert into t values(1,1,1);");
        marks(hall, "insert into t values(2,2,null)", 0);
        marks(hall, "insert into t values(2,1,1)", 1);
        marks(hall, "insert into t values(1,2,1)", 2);
        marks(hall, "insert into t values(null,2,1)", 1);
        marks(hall, "insert into t values(null,null,1)", 0);
        marks(hall, "insert into t values(2,2,7)", 2);
        marks(hall, "insert into t values(2,2,3)", 3);
        marks(hall, "insert into t values(2,null,3)", 2);
        marks(hall, "insert into t values(2,2,1),(3,3,null),(4,4,1)", 3);
        marks(hall, "insert into t values(2,2,1),(3,2,1),(4,4,1)", 1);
    }

    // "for each version ended whose references are looked at: the rows with this key in the column of each rule refer to
    // its table, in so far as it is looked at"
    private static void marksOfEndedVersions() {
        Snapshothall hall = hall();
        Calls.done(hall, "create table x(k int,t int,u int,primary(k),refer(t)to t,refer(u)to t);create table y(k int,"
                + "primary(k),refer(k)to t);insert into t values(3,30),(4,40);insert into x values(1,1,2);insert into y values(3);");
        marks(hall, "delete from t where k=1", 2);
        marks(hall, "delete from t where k=2", 3);
        marks(hall, "delete from t where k=3", 4);
        marks(hall, "delete from t where k=4", 4);
        marks(hall, "delete from t", 2);
        marks(hall, "delete from x where k>9", 1);
        // A version of its own is made: three marks of rules, and none of what refers, as the key stays.
        marks(hall, "update t set a=50 where k=1", 3);
        // The key goes: the two rules of the one made, and what refers to the old key.
        marks(hall, "update t set k=9 where k=1", 4);
        Calls.done(hall, "delete from x;delete from y;");
        marks(hall, "update t set k=9 where k=1", 6);
        marks(hall, "delete from t where k<9", 7);
        marks(hall, "delete from x", 1);
    }

    // "the number of its marks, as they were got (like ones too)"
    private static void likeMarksAreCounted() {
        Snapshothall hall = hall();
        Calls.done(hall, "begin;" + Calls.many("select*from t where k=1;", "", 9));
        Calls.due("marks", hall.transaction(2, 6), 9);
        Calls.play(hall, "insert into t values(1,1);insert into t values(1,1);save p;rollback to p;select*from t,t as x;",
                "R0", "R0", "0", "0", "[1,10,1,10;1,10,2,20;2,20,1,10;2,20,2,20]");
        Calls.due("marks", hall.transaction(2, 6), 13);
        Calls.done(hall, "rollback;");
        Calls.due("marks stay", hall.transaction(2, 6), 13);
    }

    private static void whatGivesNoMarks() {
        Snapshothall hall = hall();
        Calls.done(hall, "begin;save p;rollback to p;explain select*from t;vacuum;analyze;insert into t select 1,1 from t where "
                + "1=2;");
        Calls.due("marks", hall.transaction(2, 6), 1);
        Calls.done(hall, "commit;begin snapshot;select*from t;insert into t values(5,5);delete from t;commit;");
        Calls.due("marks of SNAPSHOT", hall.transaction(3, 6), 0);
        Calls.done(hall, "create view v as select*from t;create index i on t(a);drop view v;");
        for (int t = 4; t < 7; t++) {
            Calls.due("marks of create and drop", hall.transaction(t, 6), 0);
        }
    }

    // "by each statement that is not refused as NAMES, STATE or FULL"
    private static void refusalsAndMarks() {
        Snapshothall hall = hall();
        Calls.play(hall, "begin;select ^x from t;begin;fetch c 1;create index i on t(a);", "0", "N", "S", "S", "S");
        Calls.due("marks", hall.transaction(2, 6), 0);
        String many = "exists(select*from t as x,t as y,t as z where exists(select*from t as p,t as q,t as r where exists("
                + "select*from t as l,t as m,t as n)))";
        Calls.play(hall, "delete from t where " + many + ";", "F");
        Calls.due("marks", hall.transaction(2, 6), 0);
        Calls.play(hall, "insert into t values(1,1);", "R0");
        Calls.due("marks of a RULE", hall.transaction(2, 6), 1);
        Calls.play(hall, "1:update t set a=11 where k=1;0:delete from t;", "1", "C");
        Calls.due("marks of a CONFLICT", hall.transaction(2, 6), 2);
    }

    /**
     * Whether a query has a mark of the row with a key, which a transaction that is open made ahead of it: there is
     * an edge to that one then.
     */
    private static void range(String statement, String key, boolean want) {
        Snapshothall hall = hall();
        Calls.done(hall, "create view v as select*from t;1:begin;insert into t values(" + key + ",50);0:begin;");
        Calls.run(hall, statement + ";");
        Calls.due("refusal of " + statement, hall.result(0, 1), 0);
        Calls.due("edge by " + statement + " to the maker of " + key, hall.isEdge(4, 3), want);
        Calls.due("edges from", hall.transaction(4, 8), want ? 1 : 0);
        Calls.due("edges to", hall.transaction(3, 7), want ? 1 : 0);
        Calls.due("no edge back", hall.isEdge(3, 4), false);
    }

    // "the keys for which all of these parts of its test behind where can be TRUE: ... a sign other than <>"
    private static void rangesBySigns() {
        String[] signs = {"=", "<", "<=", ">", ">=", "<>"};
        boolean[][] due = {{false, true, false}, {true, false, false}, {true, true, false}, {false, false, true},
            {false, true, true}, {true, true, true}};
        for (int s = 0; s < signs.length; s++) {
            for (int key = 4; key <= 6; key++) {
                range("select*from t where k" + signs[s] + "5", "" + key, due[s][key - 4]);
                range("select*from t where 5" + signs[s] + "k", "" + key, due[s][s == 0 || s == 5 ? key - 4 : 6 - key]);
            }
        }
    }

    private static void rangesAtTheLeastAndGreatest() {
        range("select*from t where k<" + LEAST, LEAST, false);
        range("select*from t where k<=" + LEAST, LEAST, true);
        range("select*from t where k>=" + LEAST, LEAST, true);
        range("select*from t where k>" + LEAST, LEAST, false);
        range("select*from t where k>" + LEAST, LEAST + "+1", true);
        range("select*from t where k=" + LEAST, LEAST, true);
        range("select*from t where k<" + LEAST, GREATEST, false);
        range("select*from t where k>" + GREATEST, GREATEST, false);
        range("select*from t where k>=" + GREATEST, GREATEST, true);
        range("select*from t where k<=" + GREATEST, GREATEST, true);
        range("select*from t where k<" + GREATEST, GREATEST, false);
        range("select*from t where k<" + GREATEST, GREATEST + "-1", true);
        range("select*from t where k>" + GREATEST, LEAST, false);
        range("select*from t", LEAST, true);
        range("select*from t", GREATEST, true);
        // What is empty stays empty.
        range("select*from t where k>" + GREATEST + " and k<" + GREATEST, GREATEST, false);
        range("select*from t where k<" + LEAST + " and k>=" + LEAST, LEAST, false);
    }

    private static void rangesOfSeveralParts() {
        for (int key = 3; key <= 7; key++) {
            range("select*from t where k>=4 and k<=6", "" + key, key >= 4 && key <= 6);
            range("select*from t where k>4 and 6>k and a=0 and 1=1", "" + key, key == 5);
            range("select*from t where k=4 and k=6", "" + key, false);
            range("select*from t where k>6 and k<4", "" + key, false);
            range("select*from t where k>=5 and k<=5", "" + key, key == 5);
            range("select*from t where k>3 and k>5", "" + key, key > 5);
            range("select*from t where k<>5 and k<6", "" + key, key < 6);
            range("select*from t where[k=1 or k=2]and k<6", "" + key, key < 6);
        }
    }

    // "(A sum that is NULL makes the range empty.)"
    private static void rangesOfNull() {
        range("select*from t where k=null", "5", false);
        range("select*from t where k<null", "5", false);
        range("select*from t where null<=k", "5", false);
        range("select*from t where k>1/0", "5", false);
        range("select*from t where k>=0 and k=null and k<9", "5", false);
        range("select*from t where k<>null", "5", true);
        range("select*from t where k>=0 and a=null", "5", true);
    }

    // Parts that are no sign with the key alone, and a sum without refs and queries, leave all keys.
    private static void partsThatAreNone() {
        String[] all = {"k=4 or k=3", "k=4 or 1=2", "[k=4]", "(k)=4", "k+0=4", "-k=4", "not k=5", "not k<>4", "k in(4)",
            "k between 1 and 4", "k is null", "a=4", "k=a", "k=k+1", "4=a", "k=case when a=1 then 3 else 4 end",
            "k=case when exists(select*from v where 1=2)then 3 else 4 end", "4=case when k=4 then 4 else 3 end", "1=2",
            "exists(select*from t as x where x.k=4)and[k=4 or k=3]"};
        for (String one : all) {
            range("select*from t where " + one, "5", true);
        }
        String[] within = {"k=4", "t.k=4", "4=t.k", "k=(4)", "k=2+2", "k=case when 1=1 then 4 else 5 end", "k=coalesce(null,4)",
            "k=-4", "k=4 and[k=5 or k=6]", "1=1 and k<5 and a in(1,2)"};
        for (String one : within) {
            range("select*from t where " + one, "5", false);
        }
    }

    private static void rangesOfWords() {
        String[] signs = {"=", "<", "<=", ">", ">="};
        String[] keys = {"a", "azzzzzzz", "b", "ba", "baaaaaaa", "c"};
        for (String sign : signs) {
            for (String key : keys) {
                Snapshothall hall = new Snapshothall();
                Calls.done(hall, "create table t(w word,primary(w));1:begin;insert into t values('" + key + "');0:begin;"
                        + "select*from t where w" + sign + "'b';");
                int compared = key.compareTo("b");
                boolean want = sign.contains("=") && compared == 0 || sign.contains("<") && compared < 0
                        || sign.contains(">") && compared > 0;
                Calls.due("edge by w" + sign + "'b' to the maker of " + key, hall.isEdge(2, 1), want);
            }
        }
    }

    // "that of all keys, but for a source of a block (not one behind left join; not one of a view)"
    private static void sourcesWithAllKeys() {
        range("select*from t as x left join t on 1=1 where t.k=4 and x.k=4", "5", true);
        range("select*from t left join t as x on 1=1 where t.k=4 and x.k=4", "5", true);
        range("select*from t join t as x on x.k=4 where t.k=4", "5", true);
        range("select*from t join t as x on 1=1 where t.k=4 and x.k=4", "5", false);
        range("select*from t,t as x where t.k=4 and x.k=3", "5", false);
        range("select*from t,t as x where t.k=4", "5", true);
        range("select*from t,t as x where x.k=4", "5", true);
        range("select*from t,t as x where t.k=4 and x.k=t.k", "5", true);
        range("select*from v where k=4", "5", true);
        range("select*from t where k=4 and exists(select*from v where v.k=4)", "5", true);
        range("select*from t where k=4 and exists(select*from t as x where x.k=3)", "5", false);
        range("select*from t where k=4 and exists(select*from t as x where t.k=3)", "5", true);
        range("select count(*)from t where k=4 group by k having k=4", "5", false);
        range("select count(*)from t group by k having k=4", "5", true);
        range("select k from t where k=4 union select k from t where k=3", "5", false);
        range("select k from t where k=4 union select k from t", "5", true);
    }

    private static void rangesOfUpdatesAndDeletes() {
        for (String change : new String[] {"delete from t where ", "update t set a=a where "}) {
            range(change + "k=4", "5", false);
            range(change + "k>5 and a=1", "5", false);
            range(change + "k>4 and a=1", "5", true);
            range(change + "k=4 or k=4", "5", true);
            range(change + "a=99", "5", true);
            range(change + "k=4 and exists(select*from t as x where x.k<5)", "5", false);
            range(change + "k=4 and exists(select*from t as x where x.k<6)", "5", true);
        }
        range("delete from t", "5", true);
        range("insert into t select 7,7 from t where k<5 and 1=2", "5", false);
        range("insert into t select 7,7 from t where k<6 and 1=2", "5", true);
    }

    // "or those with told values in told columns"
    private static void marksOfValues() {
        // The row 9, 50 of the other one was taken back, but each is a row of a mark of the other one then.
        String[][] due = {{"insert into t values(7,70)", "1"}, {"insert into t values(7,50)", "C"},
            {"insert into t values(9,70)", "C"}, {"insert into t values(7,null)", "1"}, {"insert into t values(50,9)", "1"},
            {"update t set a=50 where k=1", "C"}, {"update t set a=51 where k=1", "1"},
            {"update t set k=9 where k=1", "C"}, {"update t set k=8 where k=1", "1"}};
        for (String[] one : due) {
            Snapshothall hall = hall();
            Calls.play(hall, "1:begin;save p;insert into t values(9,50);rollback to p;0:begin;" + one[0] + ";", "0", "0", "1",
                    "0", "0", one[1]);
            Calls.due("no edge by " + one[0], hall.isEdge(3, 2), false);
        }
        // A mark of values by a statement that is refused as RULE: of the row 9, 10 that another one takes back.
        Snapshothall other = hall();
        Calls.play(other, "0:begin;insert into t values(7,10);1:begin;save p;update t set k=9 where k=1;rollback to p;",
                "0", "R1", "0", "0", "1", "0");
        Calls.due("edge by told values", other.isEdge(2, 3), true);
        other = hall();
        Calls.play(other, "0:begin;insert into t values(7,10);1:begin;save p;update t set k=9 where k=2;rollback to p;",
                "0", "R1", "0", "0", "1", "0");
        Calls.due("no edge by other values", other.isEdge(2, 3), false);
        // By refer: the row with this key alone, and by what was ended: the rows that refer to it.
        for (int key = 1; key <= 2; key++) {
            Snapshothall hall = hall();
            Calls.done(hall, "create table u(k int,t int,primary(k),refer(t)to t);0:begin;insert into u values(1,1);1:begin;"
                    + "update t set a=99 where k=" + key + ";");
            Calls.due("edge by a key", hall.isEdge(3, 4), key == 1);
            hall = hall();
            Calls.done(hall, "create table u(k int,t int,primary(k),refer(t)to t);0:begin;delete from t where k=1;1:begin;"
                    + "save p;insert into u values(1,2);rollback to p;");
            Calls.due("edge by rows that refer to another one", hall.isEdge(3, 4), false);
        }
    }

    /** A statement can get marks with like values in unlike columns, and of unlike tables. */
    private static void likeValuesInOtherColumns() {
        String[] writes = {"update t set a=1 where k=9", "update t set a=1 where k=8", "update u set a=1 where k=9"};
        for (int i = 0; i < writes.length; i++) {
            Snapshothall hall = new Snapshothall();
            Calls.done(hall, "create table t(k int,a int,b int,primary(k),unique(a),unique(b));create table u(k int,a int,"
                    + "primary(k));insert into t values(9,7,5),(8,2,2),(6,3,7);insert into u values(9,7);");
            // Marks k=7, a=7, which is there already.
            Calls.play(hall, "0:begin;insert into t values(7,7,7);1:begin;" + writes[i] + ";", "0", "R1", "0", "1");
            Calls.due("edge to " + writes[i], hall.isEdge(4, 5), i == 0);
            Calls.play(hall, "2:begin;update t set b=1 where k=6;", "0", "1");
            Calls.due("no edge by a rule that was not looked at", hall.isEdge(4, 6), false);
        }
    }

    // "Two transactions are CONCURRENT if each began ahead of the commit of the other one (or the other one did not
    // commit)."
    private static void concurrentIfBegunAheadOfTheCommit() {
        // W commits just ahead of the begin of R.
        Snapshothall hall = hall();
        Calls.done(hall, "1:begin;insert into t values(5,50);commit;0:begin;select*from t;");
        Calls.due("begun behind the commit", hall.isEdge(3, 2), false);
        // R begins just ahead of the commit of W.
        hall = hall();
        Calls.done(hall, "1:begin;insert into t values(5,50);0:begin;1:commit;0:select*from t;");
        Calls.due("begun ahead of the commit", hall.isEdge(3, 2), true);
        // W begins just behind the commit of R.
        hall = hall();
        Calls.done(hall, "0:begin;select*from t;commit;1:begin;insert into t values(5,50);");
        Calls.due("committed ahead of the begin", hall.isEdge(2, 3), false);
        // W begins just ahead of the commit of R.
        hall = hall();
        Calls.done(hall, "0:begin;select*from t;1:begin;0:commit;1:insert into t values(5,50);");
        Calls.due("committed behind the begin", hall.isEdge(2, 3), true);
        Calls.done(hall, "1:commit;");
        Calls.due("it stays", hall.isEdge(2, 3), true);
        // Transactions of their own, while one is open, and while none is.
        hall = hall();
        Calls.done(hall, "0:begin;select*from t;1:insert into t values(5,50);2:insert into t values(6,60);0:commit;"
                + "3:insert into t values(7,70);");
        Calls.due("edge to the first", hall.isEdge(2, 3), true);
        Calls.due("edge to the second", hall.isEdge(2, 4), true);
        Calls.due("no edge to the third", hall.isEdge(2, 5), false);
        Calls.due("edges from", hall.transaction(2, 8), 2);
    }

    // Marks and writes of one that has committed count as long as others are concurrent with it.
    private static void marksOfOneThatCommitted() {
        Snapshothall hall = hall();
        Calls.done(hall, "0:begin;1:begin;2:begin;0:select*from t where k=5;commit;vacuum;3:select*from t where k=9;"
                + "1:insert into t values(5,50);2:insert into t values(9,90);");
        Calls.due("edge from the one that committed", hall.isEdge(2, 3), true);
        Calls.due("edge from a query of its own", hall.isEdge(5, 4), true);
        Calls.due("no other", hall.transaction(2, 8) + hall.transaction(5, 8), 2);
        Calls.done(hall, "1:commit;0:begin;select*from t where k=5;");
        Calls.due("it began behind that commit", hall.isEdge(6, 3), false);
    }

    // "if a version that W made or ended ... is a row of a mark of R"
    private static void edgesOfBothVersions() {
        String[][] due = {{"select*from t where k=1", "edge"}, {"select*from t where k=5", "edge"},
            {"select*from t where k=2", "no"}, {"insert into t values(7,10)", "edge"}, {"insert into t values(7,11)", "no"},
            {"select*from t where k=5 and a=77", "edge"}};
        for (String[] one : due) {
            Snapshothall hall = hall();
            Calls.done(hall, "1:begin;save p;update t set k=5 where k=1;rollback to p;0:begin;");
            Calls.run(hall, one[0] + ";");
            Calls.due("edge by " + one[0], hall.isEdge(3, 2), one[1].equals("edge"));
        }
        Snapshothall hall = hall();
        Calls.done(hall, "0:begin;select*from t where k=1;1:begin;select*from t where k=2;2:delete from t where k=1;");
        Calls.due("edge by a delete", hall.isEdge(2, 4), true);
        Calls.due("no edge by a delete", hall.isEdge(3, 4), false);
        // A row that it made and ended itself.
        Calls.done(hall, "1:select*from t where k=7;2:begin;insert into t values(7,7);delete from t where k=7;commit;");
        Calls.due("edge by a row that came and went", hall.isEdge(3, 5), true);
    }

    // "whichever came first"
    private static void edgesWhicheverCameFirst() {
        Snapshothall hall = hall();
        Calls.done(hall, "0:begin;1:begin;0:select*from t;1:insert into t values(5,5);");
        Calls.due("the mark first", hall.isEdge(2, 3), true);
        hall = hall();
        Calls.done(hall, "0:begin;1:begin;1:insert into t values(5,5);0:select*from t;");
        Calls.due("the version first", hall.isEdge(2, 3), true);
        Calls.due("edges to", hall.transaction(3, 7), 1);
        Calls.done(hall, "0:select*from t;1:insert into t values(6,6);");
        Calls.due("edges are counted once", hall.transaction(3, 7) + hall.transaction(2, 8), 2);
    }

    // "both SERIALIZABLE"
    private static void edgesOfSerializableOnes() {
        String[] begins = {"begin;", "begin snapshot;"};
        for (int r = 0; r < 2; r++) {
            for (int w = 0; w < 2; w++) {
                Snapshothall hall = hall();
                Calls.done(hall, "0:" + begins[r] + "1:" + begins[w] + "0:select*from t;1:insert into t values(5,5);"
                        + "0:select*from t;");
                Calls.due("edge of " + r + w, hall.isEdge(2, 3), r == 0 && w == 0);
                Calls.due("edges from", hall.transaction(2, 8), r == 0 && w == 0 ? 1 : 0);
            }
        }
    }

    // "not rolled back"
    private static void edgesOfOnesRolledBack() {
        for (String one : new String[] {"0:rollback;", "1:rollback;"}) {
            Snapshothall hall = hall();
            Calls.done(hall, "0:begin;1:begin;0:select*from t;1:insert into t values(5,5);2:begin;select*from t;");
            Calls.due("edge", hall.isEdge(2, 3), true);
            Calls.done(hall, one);
            Calls.due("no edge behind " + one, hall.isEdge(2, 3), false);
            Calls.due("the other edge", hall.isEdge(4, 3), one.startsWith("0"));
            Calls.due("edges to", hall.transaction(3, 7), one.startsWith("0") ? 1 : 0);
            Calls.due("edges from", hall.transaction(2, 8), 0);
            Calls.done(hall, one.startsWith("0") ? "1:insert into t values(6,6);" : "0:select*from t;");
            Calls.due("none comes later", hall.isEdge(2, 3), false);
        }
        // Nor of a statement that was refused as RULE, whose versions were never there.
        Snapshothall hall = hall();
        Calls.play(hall, "0:begin;1:begin;0:select*from t where k>2;1:insert into t values(5,5),(1,1);", "0", "0", "[]", "R0");
        Calls.due("no edge to a refused statement", hall.isEdge(2, 3), false);
        Calls.due("no edge from it", hall.isEdge(3, 2), false);
        // But its marks stay.
        Calls.play(hall, "0:insert into t values(5,6);", "1");
        Calls.due("edge from one refused as RULE", hall.isEdge(3, 2), true);
    }

    // "(also one that it took back by rollback to ...)"
    private static void edgesToWhatWasTakenBack() {
        Snapshothall hall = hall();
        Calls.done(hall, "1:begin;save p;insert into t values(5,5);delete from t where k=1;rollback to p;0:begin;select*from t "
                + "where k=5;2:begin;select*from t where k=1;3:begin;select*from t where k=2;");
        Calls.due("edge to what was made", hall.isEdge(3, 2), true);
        Calls.due("edge to what was ended", hall.isEdge(4, 2), true);
        Calls.due("no edge to what was not", hall.isEdge(5, 2), false);
        Calls.done(hall, "1:commit;");
        Calls.due("the clock", hall.clock(), 2);
        Calls.due("edge stays", hall.isEdge(3, 2), true);
        // The marks of what was taken back stay, too.
        hall = hall();
        Calls.done(hall, "1:begin;save p;select*from t;rollback to p;0:insert into t values(5,5);");
        Calls.due("edge by a mark", hall.isEdge(2, 3), true);
    }

    // "also behind vacuum and restart()"; "Cursors, marks and edges stay."
    private static void edgesBehindVacuumAndRestart() {
        Snapshothall hall = hall();
        Calls.done(hall, "0:begin;1:begin;save p;insert into t values(5,5);rollback to p;vacuum;0:select*from t where k=5;");
        Calls.due("edge behind vacuum", hall.isEdge(2, 3), true);
        Calls.due("the version is gone", hall.table(0, 2), 2);
        Calls.done(hall, "2:begin;select*from t where k=6;vacuum;1:insert into t values(6,6);");
        Calls.due("edge by a mark ahead of vacuum", hall.isEdge(4, 3), true);
        Calls.done(hall, "0:commit;1:commit;2:commit;");
        hall.setFuse(1, false);
        Calls.play(hall, "delete from t;", "P");
        Calls.due("edge while the power is off", hall.isEdge(2, 3), true);
        hall.restart();
        Calls.due("edge behind restart", hall.isEdge(2, 3), true);
        Calls.due("edge behind restart", hall.isEdge(4, 3), true);
        Calls.due("edges to", hall.transaction(3, 7), 2);
    }

    /** Edges of transactions with great numbers: each of these to each of the others, cleared by a rollback. */
    private static void edgesOfGreatNumbers() {
        int[] at = {2, 62, 63, 64, 65, 126, 127, 128, 129, 190, 191, 192, 193, 198};
        for (int r : at) {
            for (int w : at) {
                if (r != w) {
                    edgeBetween(r, w);
                }
            }
        }
    }

    private static void edgeBetween(int r, int w) {
        Snapshothall hall = hall();
        String[] begins = {r < w ? "0:begin;" : "1:begin;", r < w ? "1:begin;" : "0:begin;"};
        goTo(hall, Math.min(r, w));
        Calls.done(hall, begins[0]);
        goTo(hall, Math.max(r, w));
        Calls.done(hall, begins[1] + "0:select*from t where k=5;1:insert into t values(5,5);");
        String what = "of " + r + " and " + w;
        Calls.due("transaction " + what, hall.session(0, 0), r);
        Calls.due("transaction " + what, hall.session(1, 0), w);
        for (int t = 0; t < hall.transactions(); t += t % 64 >= 61 || t < 3 ? 1 : 2) {
            Calls.due("edge to " + t + what, hall.isEdge(r, t), t == w);
            Calls.due("edge from " + t + what, hall.isEdge(t, w), t == r);
            Calls.due("edges " + t + what, hall.transaction(t, 7) + 2 * hall.transaction(t, 8), t == w ? 1 : t == r ? 2 : 0);
        }
        Calls.play(hall, "1:insert into t values(6,10);save p;insert into t values(7,7);0:insert into t values(8,8);", "R1", "0", "1",
                "1");
        // The edge back makes two with edges to each other.
        Calls.play(hall, "1:select*from t where k=8;", "C");
        Calls.due("edge behind the rollback " + what, hall.isEdge(r, w), false);
        Calls.due("edges from " + what, hall.transaction(r, 8) + hall.transaction(w, 7), 0);
        Calls.due("errors " + what, hall.errors(), 0);
    }

    private static void goTo(Snapshothall hall, int transactions) {
        while (hall.transactions() < transactions) {
            Calls.run(hall, Calls.many("2:select k from t where k<0;", "", Math.min(20, transactions - hall.transactions())));
        }
    }

    private static void noEdgeToItself() {
        Snapshothall hall = hall();
        Calls.done(hall, "begin;select*from t;insert into t values(5,5);update t set a=6 where k=5;select*from t;commit;");
        Calls.due("edge to itself", hall.isEdge(2, 2), false);
        Calls.due("edges", hall.transaction(2, 7) + hall.transaction(2, 8), 0);
    }

    // "if now some transaction, whichever, has an edge to it and an edge from it (from and to the same one counts as
    // well), the statement is refused as CONFLICT"
    private static void twoWithEdgesToEachOther() {
        Snapshothall hall = hall();
        Calls.play(hall, "0:begin;1:begin;0:select*from t where k=1;1:select*from t where k=2;0:update t set a=21 where k=2;"
                + "1:update t set a=11 where k=1;", "0", "0", "[1,10]", "[2,20]", "1", "C");
        Calls.due("rolled back", hall.transaction(3, 0), Snapshothall.ROLLED_BACK);
        Calls.due("its version was never there", hall.table(0, 2), 3);
        Calls.due("no edges", hall.transaction(2, 7) + hall.transaction(2, 8), 0);
        Calls.play(hall, "0:commit;select*from t;", "0", "[1,10;2,21]");
        // By a query that comes last.
        hall = hall();
        Calls.play(hall, "0:begin;1:begin;0:select*from t where k=1;0:update t set a=21 where k=2;1:update t set a=11 where k=1;"
                + "1:select*from t where k=2;", "0", "0", "[1,10]", "1", "1", "C");
        Calls.due("its version is DEAD", hall.table(0, 3), 1);
    }

    private static void oneInTheMiddle() {
        // 2 has an edge to 3, and 3 would have one to 4.
        Snapshothall hall = hall();
        Calls.play(hall, "0:begin;1:begin;2:begin;0:select*from t where k=5;1:insert into t values(5,5);1:select*from t where "
                + "k=6;2:insert into t values(6,6);", "0", "0", "0", "[]", "1", "[]", "C");
        Calls.due("edge to the middle", hall.isEdge(2, 3), true);
        Calls.due("the last one goes", hall.transaction(4, 0), Snapshothall.ROLLED_BACK);
        Calls.play(hall, "1:commit;0:commit;", "0", "0");
        // The first one of the three goes, if it brings the edge.
        hall = hall();
        Calls.play(hall, "0:begin;1:begin;2:begin;1:insert into t values(5,5);1:select*from t where k=6;2:insert into t values"
                + "(6,6);0:select*from t where k=5;", "0", "0", "0", "1", "[]", "1", "C");
        Calls.due("the first one goes", hall.transaction(2, 0), Snapshothall.ROLLED_BACK);
        // One with two edges to it, or two from it, is none in the middle.
        hall = hall();
        Calls.play(hall, "0:begin;1:begin;2:begin;0:select*from t;2:select*from t;1:insert into t values(5,5);1:commit;0:commit;"
                + "2:commit;", "0", "0", "0", "[1,10;2,20]", "[1,10;2,20]", "1", "0", "0", "0");
        Calls.due("edges to", hall.transaction(3, 7), 2);
    }

    private static void oneInTheMiddleThatCommitted() {
        // 3 in the middle has committed already; the statement that brings the edge is refused.
        Snapshothall hall = hall();
        Calls.play(hall, "0:begin;2:begin;1:begin;select*from t where k=6;insert into t values(5,5);commit;2:insert into t values"
                + "(6,6);0:select*from t where k=5;", "0", "0", "0", "[]", "1", "0", "1", "C");
        Calls.due("edge from the middle", hall.isEdge(4, 3), true);
        Calls.due("the first one goes", hall.transaction(2, 0), Snapshothall.ROLLED_BACK);
        Calls.play(hall, "2:commit;", "0");
    }

    // "(also one that is refused as RULE)"; "in place of what it would be told"
    private static void conflictInPlaceOfRule() {
        Snapshothall hall = hall();
        Calls.play(hall, "0:begin;1:begin;1:select*from t where k=7;0:insert into t values(7,7);0:save p;1:save p;insert into t "
                + "values(8,8);rollback to p;0:insert into t values(8,10);", "0", "0", "[]", "1", "0", "0", "1", "0", "C");
        Calls.due("no number of a rule", hall.result(8, 5), Snapshothall.NONE);
        Calls.due("rolled back", hall.transaction(2, 0), Snapshothall.ROLLED_BACK);
        // Where there is no edge by it, it stays a RULE.
        hall = hall();
        Calls.play(hall, "0:begin;1:begin;1:select*from t where k=7;0:insert into t values(7,7);insert into t values(9,10);",
                "0", "0", "[]", "1", "R1");
    }

    private static void conflictOfItsOwnStatement() {
        Snapshothall hall = hall();
        Calls.play(hall, "0:begin;select*from t where k=2;1:update t set a=21 where k=2;0:update t set a=11 where k=1;"
                + "1:select*from t where k=1;", "0", "[2,20]", "1", "1", "C");
        Calls.due("rolled back", hall.transaction(4, 0), Snapshothall.ROLLED_BACK);
        Calls.due("rows of a CONFLICT", hall.result(4, 4), 0);
        Calls.play(hall, "0:commit;1:select*from t where k=1;", "0", "[1,11]");
    }

    // "again and again the one with the least number of those that were not told yet, and ahead of which none of these
    // that is not told must come"
    private static void orderByNumbersCommitsAndEdges() {
        Snapshothall hall = hall();
        order(hall, 0, 1);
        // 2 has an edge to 3, which committed first: numbers tell them so anyway.
        Calls.done(hall, "0:begin;1:begin;0:select*from t;1:insert into t values(5,5);1:commit;0:commit;");
        order(hall, 0, 1, 2, 3);
        // 5 has an edge to 4: it must come ahead of it.
        Calls.done(hall, "0:begin;1:begin;1:select*from t;0:insert into t values(6,6);0:commit;");
        order(hall, 0, 1, 2, 3, 4);
        Calls.done(hall, "1:commit;");
        order(hall, 0, 1, 2, 3, 5, 4);
        // Neither SNAPSHOT nor rolled back nor open ones are told.
        Calls.done(hall, "begin snapshot;commit;begin;rollback;begin;select*from t;");
        order(hall, 0, 1, 2, 3, 5, 4);
        Calls.done(hall, "1:select k from t where k=1;");
        order(hall, 0, 1, 2, 3, 5, 4, 9);
        // 8 is open; 9 has committed ahead of the begin of 10.
        Calls.done(hall, "2:begin;commit;0:commit;");
        order(hall, 0, 1, 2, 3, 5, 4, 8, 9, 10);
        // 13 committed ahead of the begin of 14, to which 11 has edges: none but numbers tell 12.
        Calls.done(hall, "0:begin;1:begin;1:select*from t where k=7;2:begin;0:insert into t values(7,7);2:commit;0:commit;1:commit;");
        order(hall, 0, 1, 2, 3, 5, 4, 8, 9, 10, 12, 11, 13);
    }

    private static void order(Snapshothall hall, int... due) {
        for (int i = 0; i < due.length; i++) {
            Calls.due("order(" + i + ")", hall.order(i), due[i]);
        }
        Calls.due("order behind the last", hall.order(due.length), Snapshothall.NONE);
    }

    private static void tellingOfEdgesAndOrder() {
        Snapshothall hall = hall();
        int[] wrong = {-1, 2, 200, Integer.MIN_VALUE, Integer.MAX_VALUE};
        for (int one : wrong) {
            Calls.throwsAlone(hall, "isEdge from " + one, IndexOutOfBoundsException.class, () -> hall.isEdge(one, 0));
            Calls.throwsAlone(hall, "isEdge to " + one, IndexOutOfBoundsException.class, () -> hall.isEdge(0, one));
            Calls.throwsAlone(hall, "isEdge of " + one, IndexOutOfBoundsException.class, () -> hall.isEdge(one, one));
        }
        Calls.due("isEdge", hall.isEdge(1, 0), false);
        Calls.throwsAlone(hall, "order -1", IllegalArgumentException.class, () -> hall.order(-1));
        Calls.throwsAlone(hall, "the least order", IllegalArgumentException.class, () -> hall.order(Integer.MIN_VALUE));
        Calls.due("order 0", hall.order(0), 0);
        Calls.due("order 1", hall.order(1), 1);
        Calls.due("order 2", hall.order(2), Snapshothall.NONE);
        Calls.due("order 200", hall.order(200), Snapshothall.NONE);
        Calls.due("the greatest order", hall.order(Integer.MAX_VALUE), Snapshothall.NONE);
        Calls.due("order of a new one", new Snapshothall().order(0), Snapshothall.NONE);
        Calls.refuses("isEdge of a new one", IndexOutOfBoundsException.class, () -> new Snapshothall().isEdge(0, 0));
    }
}
