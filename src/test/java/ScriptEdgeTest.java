/** The bounds of section 3, and of promises 5 to 9: sessions, refusals and their order, STATE, FULL, WORK, numbers. */
public final class ScriptEdgeTest {
    public static void main(String[] args) {
        sessionsAreZeroToThree();
        theLatestDigitTells();
        powerIsAheadOfAllOthers();
        namesIsAheadOfStateAndFull();
        stateIsAheadOfFull();
        fullIsAheadOfRuleAndConflict();
        ruleOrConflictWhicheverIsFirst();
        powerIsBehindRuleAndConflict();
        placesOfRefusals();
        refusedStatementsChangeNothing();
        transactionsGoOnBehindRefusals();
        conflictRollsBack();
        stateOfCreateAndDrop();
        stateOfTransactions();
        stateOfSaves();
        stateOfCursors();
        stateOfDrops();
        whatNeedsNoTransaction();
        atMostTwoHundredTransactions();
        workOfQueries();
        workOfNestedQueries();
        workOfViews();
        workOfInserts();
        workOfUpdatesAndDeletes();
        atMostSixtyRows();
        atMostAHundredVersionsByAStatement();
        explainIsNeverFull();
        createViewIsNotFullByItsQuery();
        numbersOfResults();
        resultsAreThoseOfTheLatestScript();
        Calls.end("ScriptEdgeTest");
    }

    private static Snapshothall hall() {
        Snapshothall hall = new Snapshothall();
        Calls.done(hall, "create table t(k int,a int,primary(k));insert into t values(1,1),(2,2);");
        return hall;
    }

    // "each for a session (0 to 3)"
    private static void sessionsAreZeroToThree() {
        Snapshothall hall = hall();
        Calls.play(hall, "3:begin;2:begin;1:begin;0:begin;", "0", "0", "0", "0");
        for (int i = 0; i < 4; i++) {
            Calls.due("session of a result", hall.result(i, 0), 3 - i);
            Calls.due("transaction of a session", hall.session(i, 0), 5 - i);
        }
        Calls.throwsAlone(hall, "session 4", IndexOutOfBoundsException.class, () -> hall.session(4, 0));
        Calls.throwsAlone(hall, "session -1", IndexOutOfBoundsException.class, () -> hall.session(-1, 0));
        Calls.fault("^4:begin;");
    }

    // "the one that the latest digit ahead of it tells, 0 without one"
    private static void theLatestDigitTells() {
        Snapshothall hall = hall();
        Calls.run(hall, "vacuum;2:vacuum;vacuum;3:vacuum;1:vacuum;vacuum;0:vacuum;vacuum;");
        int[] due = {0, 2, 2, 3, 1, 1, 0, 0};
        for (int i = 0; i < due.length; i++) {
            Calls.due("session of statement " + i, hall.result(i, 0), due[i]);
        }
        Calls.run(hall, "3:vacuum;vacuum;");
        Calls.run(hall, "vacuum;");
        Calls.due("session of a new script", hall.result(0, 0), 0);
    }

    // "POWER ahead of all others while the power is off"
    private static void powerIsAheadOfAllOthers() {
        Snapshothall hall = hall();
        hall.setFuse(1, false);
        Calls.play(hall, "insert into t values(3,3);", "P");
        String[] scripts = {"select x from y;", "commit;", "create table t(k int);", "select*from t,t as a,t as b;",
            "insert into t values(1,1);", "explain select*from t;", "vacuum;", "analyze;", "begin;", "begin snapshot;",
            "rollback;", "save p;", "rollback to p;", "open c for select*from t;", "fetch c 1;", "close c;",
            "create view v as select*from t;", "create index i on t(a);", "drop table t;", "drop table x;", "drop index i;",
            "drop view v;", "update t set a=1;", "delete from t;", "select*from t;"};
        for (String script : scripts) {
            Calls.leaves(hall, script, "P");
            Calls.due("place", hall.result(0, 3), 0);
            Calls.due("number", hall.result(0, 2), 0);
        }
        hall.restart();
        Calls.play(hall, "select*from t;select ^x from t;commit;", "[1,1;2,2]", "N", "S");
    }

    private static Snapshothall fullOfTables() {
        Snapshothall hall = new Snapshothall();
        for (int i = 0; i < 6; i++) {
            Calls.done(hall, "create table t" + (char) ('a' + i) + "(k int,primary(k));");
        }
        return hall;
    }

    // "then NAMES (section 4), then STATE, then FULL"
    private static void namesIsAheadOfStateAndFull() {
        Snapshothall hall = fullOfTables();
        Calls.leaves(hall, "create table x(k int,primary(^y));", "N");
        Calls.leaves(hall, "create table ^ta(k int,primary(k));", "N");
        Calls.done(hall, "begin;");
        Calls.leaves(hall, "create table x(k int,primary(^y));", "N");
        Calls.leaves(hall, "create index i on ta(^y);", "N");
        Calls.leaves(hall, "create view v as select ^y from ta;", "N");
        Calls.leaves(hall, "drop table ^x;", "N");
        Calls.leaves(hall, "drop index ^x;", "N");
        Calls.leaves(hall, "drop view ^x;", "N");
        Calls.leaves(hall, "open c for select ^y from ta;", "N");
        Calls.done(hall, "open c for select k from ta;");
        Calls.leaves(hall, "open c for select ^y from ta;", "N");
        Calls.done(hall, "rollback;");
        Calls.leaves(hall, "open c for select ^y from ta;", "N");
        // NAMES ahead of a WORK above 600, and of too many versions.
        hall = large();
        Calls.leaves(hall, "select ^y from t,t as a;", "N");
        Calls.leaves(hall, "delete from t where exists(select*from t as a,t as b)and ^y=1;", "N");
    }

    private static void stateIsAheadOfFull() {
        Snapshothall hall = fullOfTables();
        Calls.leaves(hall, "create table x(k int,primary(k));", "F");
        Calls.done(hall, "create index i on ta(k);create index j on ta(k);");
        Calls.leaves(hall, "create index l on ta(k);", "F");
        Calls.done(hall, "create view a as select*from ta;create view b as select*from ta;create view c as select*from ta;"
                + "create view d as select*from ta;");
        Calls.leaves(hall, "create view e as select*from ta;", "F");
        Calls.done(hall, "3:begin;");
        Calls.leaves(hall, "create table x(k int,primary(k));", "S");
        Calls.leaves(hall, "create index l on ta(k);", "S");
        Calls.leaves(hall, "create view e as select*from ta;", "S");
        hall = large();
        Calls.leaves(hall, "open c for select*from t,t as a;", "S");
        Calls.done(hall, "begin;");
        Calls.leaves(hall, "open c for select*from t,t as a;", "F");
        Calls.done(hall, "open c for select*from t;");
        Calls.leaves(hall, "open c for select*from t,t as a;", "S");
    }

    /** Tables t of 30 rows, d of 29, b of 20, c of 19, two of 2, o of 1, e of none, each with the keys from 0 on. */
    private static Snapshothall large() {
        Snapshothall hall = new Snapshothall();
        Calls.done(hall, "create table t(k int,primary(k));create table b(k int,primary(k));create table c(k int,primary(k));"
                + "create table d(k int,primary(k));create table o(k int,primary(k));create table e(k int,primary(k));");
        Calls.done(hall, "insert into t values(0),(1),(2),(3),(4),(5),(6),(7),(8),(9);insert into t select k+10 from t;"
                + "insert into t select k+20 from t where k<10;insert into b select k from t where k<20;"
                + "insert into c select k from t where k<19;insert into d select k from t where k<29;"
                + "insert into o values(0);");
        return hall;
    }

    private static Snapshothall hundred() {
        Snapshothall hall = large();
        Calls.done(hall, "insert into t select k+30 from t;insert into t select k+60 from d;insert into t select k+89 from b"
                + " where k<10;");
        Calls.due("versions", hall.table(0, 2), 99);
        return hall;
    }

    private static void fullIsAheadOfRuleAndConflict() {
        Snapshothall hall = hundred();
        Calls.leaves(hall, "insert into t values(0),(1);", "F");
        Calls.play(hall, "insert into t values(0);", "R0");
        Calls.done(hall, "0:begin snapshot;1:delete from t where k>96;");
        Calls.leaves(hall, "0:update t set k=k where k>96;", "F");
        Calls.play(hall, "0:update t set k=k where k=97;", "C");
        // NAMES of an own transaction begins none, nor does FULL.
        int transactions = hall.transactions();
        Calls.play(hall, "insert into t values(0),(1);select ^y from t;", "F", "N");
        Calls.due("transactions", hall.transactions(), transactions);
    }

    // "then RULE or CONFLICT, whichever is come to first"
    private static void ruleOrConflictWhicheverIsFirst() {
        Snapshothall hall = new Snapshothall();
        Calls.done(hall, "create table t(k int,a int not null,check(a<9),primary(k),check(a>0));"
                + "insert into t values(1,1);");
        String begin = "0:begin snapshot;1:insert into t values(5,5);0:";
        String[][] due = {{"insert into t values(5,5)", "C"}, {"insert into t values(5,9)", "R0"},
            {"insert into t values(5,0)", "C"}, {"insert into t values(5,null)", "R9"},
            {"insert into t values(6,0),(5,5)", "R2"}, {"insert into t values(5,5),(6,0)", "C"},
            {"insert into t values(1,1),(5,5)", "R1"}, {"insert into t values(5,5),(1,1)", "C"}};
        for (String[] one : due) {
            Calls.play(hall, begin + one[0] + ";", "0", "1", one[1]);
            Calls.run(hall, "0:rollback;1:delete from t where k=5;");
        }
        // A version that has an ender already is told ahead of all changes.
        Calls.play(hall, "0:begin snapshot;1:update t set a=2;0:update t set a=null;", "0", "1", "C");
    }

    // "POWER again, if the power falls as it commits"
    private static void powerIsBehindRuleAndConflict() {
        Snapshothall hall = hall();
        hall.setFuse(1, false);
        Calls.play(hall, "insert into t values(1,1);select ^x from t;commit;select*from t;", "R0", "N", "S", "[1,1;2,2]");
        Calls.due("the power is on", hall.isDown(), false);
        Calls.play(hall, "insert into t values(3,3);", "P");
        Calls.due("place", hall.result(0, 3), 0);
        Calls.due("the power is off", hall.isDown(), true);
        hall.restart();
        hall.setFuse(8, true);
        Calls.play(hall, "insert into t values(3,3);", "P");
        Calls.due("number of one that has happened", hall.result(0, 2), 0);
        hall.restart();
        Calls.play(hall, "select k from t;", "[1;2;3]");
        hall.setFuse(8, false);
        Calls.play(hall, "begin;insert into t values(4,4);commit;", "0", "1", "P");
        Calls.due("place of a commit", hall.result(2, 3), 32);
    }

    // "The place of NAMES is that of the token concerned, of others that of the first token of the statement."
    private static void placesOfRefusals() {
        Snapshothall hall = hall();
        Calls.run(hall, "  begin;3 : commit ; insert into t values(1,1);create table a(k int,primary(k));select  x from t;");
        int[] due = {Snapshothall.NONE, 12, 21, 47, 88};
        for (int i = 0; i < due.length; i++) {
            Calls.due("place of statement " + i, hall.result(i, 3), due[i]);
        }
        hall = fullOfTables();
        Calls.run(hall, " 1:create table x(k int,primary(k));");
        Calls.due("place of FULL", hall.result(0, 3), 3);
        hall = hall();
        Calls.run(hall, "0:begin snapshot;1:delete from t;0: delete from t;");
        Calls.due("place of CONFLICT", hall.result(2, 3), 36);
        Calls.due("rule of a CONFLICT", hall.result(2, 5), Snapshothall.NONE);
        Calls.due("CONFLICT", hall.result(2, 1), Snapshothall.CONFLICT);
        hall = hall();
        hall.setFuse(1, false);
        Calls.run(hall, "2: update t set a=9; begin;");
        Calls.due("place of POWER", hall.result(0, 3), 3);
        Calls.due("place of POWER", hall.result(1, 3), 21);
    }

    // "A refused statement changes nothing (its versions were never there, and trees are as they were)"
    private static void refusedStatementsChangeNothing() {
        Snapshothall hall = hall();
        Calls.done(hall, "create index i on t(a);create table u(k int,t int,primary(k),refer(t)to t);insert into u values(1,1);"
                + "begin snapshot;save p;open c for select*from t;insert into t values(7,7);update t set a=3 where k=2;");
        String[][] due = {{"select ^x from t;", "N"}, {"begin;", "S"}, {"create view v as select*from t;", "S"},
            {"drop index i;", "S"}, {"rollback to q;", "S"}, {"fetch d 1;", "S"}, {"open c for select*from t;", "S"},
            {"close d;", "S"}, {"insert into t values(8,8),(9,9),(1,1);", "R0"}, {"update t set k=9,a=5;", "R0"},
            {"update t set k=null;", "R0"}, {"delete from t;", "R11"}, {"update t set k=k+10;", "R11"},
            {"insert into u values(2,7),(3,8);", "R11"}};
        for (String[] one : due) {
            Calls.leaves(hall, one[0], one[1]);
        }
        Calls.play(hall, "fetch c 9;select*from t;commit;select*from t;", "[1,1;2,2]", "[1,1;2,3;7,7]", "0",
                "[1,1;2,3;7,7]");
    }

    // "and its transaction goes on"; one of its own is rolled back
    private static void transactionsGoOnBehindRefusals() {
        Snapshothall hall = hall();
        Calls.play(hall, "begin;insert into t values(3,3);insert into t values(1,1);select ^x from t;begin;insert into t "
                + "values(4,4);commit;select k from t;", "0", "1", "R0", "N", "S", "1", "0", "[1;2;3;4]");
        Calls.due("committed", hall.transaction(2, 0), Snapshothall.COMMITTED);
        Calls.play(hall, "insert into t values(5,5),(1,1);", "R0");
        Calls.due("its own is rolled back", hall.transaction(4, 0), Snapshothall.ROLLED_BACK);
        Calls.due("versions", hall.table(0, 2), 4);
        Calls.due("entries", hall.index(0, 2), 4);
    }

    // "but by CONFLICT its transaction is rolled back behind that"; "The script goes on in each case."
    private static void conflictRollsBack() {
        Snapshothall hall = hall();
        Calls.play(hall, "0:begin snapshot;save p;open c for select*from t;insert into t values(3,3);1:update t set a=5 where "
                + "k=1;0:update t set a=6;select*from t;rollback;", "0", "0", "0", "1", "1", "C", "[1,5;2,2]", "S");
        Calls.due("rolled back", hall.transaction(2, 0), Snapshothall.ROLLED_BACK);
        Calls.due("saves", hall.session(0, 1), 0);
        Calls.due("cursors", hall.session(0, 2), 0);
        // The version of the earlier statement is DEAD, those of the refused one were never there.
        Calls.due("versions", hall.table(0, 2), 4);
        Calls.due("dead", hall.table(0, 3), 1);
        Calls.due("the dead one", hall.valueAt(0, 2, 0), 3L);
    }

    // "STATE: create, drop while any session has a transaction open"
    private static void stateOfCreateAndDrop() {
        Snapshothall hall = hall();
        Calls.done(hall, "create index i on t(a);create view v as select*from t;create table u(k int,primary(k));");
        String[] statements = {"create table x(k int,primary(k));", "create index j on t(a);",
            "create view z as select*from t;", "drop table u;", "drop index i;", "drop view v;"};
        for (int session = 0; session < 4; session++) {
            Calls.done(hall, session + ":begin" + (session % 2 == 0 ? ";" : " snapshot;"));
            for (String one : statements) {
                Calls.leaves(hall, one, "S");
                Calls.leaves(hall, "2:" + one, "S");
            }
            Calls.done(hall, session + (session < 2 ? ":commit;" : ":rollback;"));
        }
        for (String one : statements) {
            Calls.play(hall, one, "0");
        }
    }

    // "begin with one open; commit, rollback, save, open, fetch, close without one"
    private static void stateOfTransactions() {
        Snapshothall hall = hall();
        String[] needs = {"commit;", "rollback;", "save p;", "rollback to p;", "open c for select*from t;", "fetch c 1;",
            "close c;"};
        Calls.done(hall, "1:begin;");
        for (String one : needs) {
            Calls.leaves(hall, one, "S");
            Calls.leaves(hall, "3:" + one, "S");
        }
        Calls.play(hall, "0:begin;", "0");
        Calls.leaves(hall, "begin;", "S");
        Calls.leaves(hall, "begin snapshot;", "S");
        Calls.play(hall, "commit;", "0");
        Calls.leaves(hall, "commit;", "S");
        Calls.play(hall, "begin snapshot;rollback;", "0", "0");
        Calls.leaves(hall, "rollback;", "S");
    }

    // "rollback to a name that is not saved"; "a save under a 4th name"
    private static void stateOfSaves() {
        Snapshothall hall = hall();
        Calls.play(hall, "begin;save a;save b;", "0", "0", "0");
        Calls.leaves(hall, "rollback to c;", "S");
        Calls.play(hall, "save c;", "0");
        Calls.due("saves", hall.session(0, 1), 3);
        Calls.leaves(hall, "save d;", "S");
        Calls.play(hall, "save b;save a;save c;", "0", "0", "0");
        Calls.due("saves", hall.session(0, 1), 3);
        Calls.leaves(hall, "save d;", "S");
        // By now they stand as b, a, c.
        Calls.play(hall, "rollback to a;save d;rollback to c;rollback to b;", "0", "0", "S", "0");
        Calls.due("saves", hall.session(0, 1), 1);
        Calls.leaves(hall, "rollback to d;", "S");
        // Each session has its own.
        Calls.play(hall, "1:begin;rollback to b;save x;save y;save z;save b;", "0", "S", "0", "0", "0", "S");
    }

    // "a cursor that is open already, or is not"; "a 3rd cursor"
    private static void stateOfCursors() {
        Snapshothall hall = hall();
        Calls.play(hall, "begin;fetch c 1;close c;open c for select*from t;", "0", "S", "S", "0");
        Calls.leaves(hall, "open c for select k from t;", "S");
        Calls.leaves(hall, "fetch d 1;", "S");
        Calls.leaves(hall, "close d;", "S");
        Calls.play(hall, "open d for select k from t;", "0");
        Calls.due("cursors", hall.session(0, 2), 2);
        Calls.leaves(hall, "open e for select k from t;", "S");
        Calls.play(hall, "close c;open e for select a+100,a from t;fetch e 1;fetch d 1;fetch e 9;fetch d 9;", "0", "0", "[101,1]",
                "[1]", "[102,2]", "[2]");
        Calls.play(hall, "close d;open d for select k+5 from t;fetch d 1;close e;open e for select k+7 from t;fetch d 1;fetch e 2;"
                + "close e;close d;open d for select k from t;open e for select k from t where k>1;fetch e 9;fetch d 1;",
                "0", "0", "[6]", "0", "0", "[7]", "[8;9]", "0", "0", "0", "0", "[2]", "[1]");
        Calls.leaves(hall, "fetch c 1;", "S");
        Calls.leaves(hall, "open c for select k from t;", "S");
        Calls.play(hall, "1:begin;fetch d 1;open d for select 5 from t;fetch d 9;0:fetch d 9;", "0", "S", "0", "[5;5]",
                "[2]");
    }

    // "drop of a table or view that a view uses (also by another view), or of a table to which another table refers"
    private static void stateOfDrops() {
        Snapshothall hall = hall();
        Calls.done(hall, "create view v as select*from t;create view w as select*from v;");
        Calls.leaves(hall, "drop table t;", "S");
        Calls.leaves(hall, "drop view v;", "S");
        Calls.play(hall, "drop view w;", "0");
        Calls.leaves(hall, "drop table t;", "S");
        Calls.play(hall, "drop view v;create table u(k int,a int,primary(k),refer(a)to t);", "0", "0");
        Calls.leaves(hall, "drop table t;", "S");
        Calls.play(hall, "drop table u;create table u(k int,primary(k),refer(k)to u);drop table u;drop table t;",
                "0", "0", "0", "0");
        hall = hall();
        Calls.done(hall, "create table u(k int,refer(k)to t,primary(k));create table w(k int,primary(k),check(k>0),refer(k)to u);");
        Calls.leaves(hall, "drop table t;", "S");
        Calls.leaves(hall, "drop table u;", "S");
        Calls.play(hall, "drop table w;drop table u;drop table t;", "0", "0", "0");
        // Wherever in its query the view uses it.
        String[] uses = {"select k from t", "select k from u union select k from t", "select u.k from u,t as x where 1=2",
            "select k from u where exists(select*from t)",
            "select k from u where k in(select k from u as y where exists(select*from t))",
            "select u.k from u left join t as z on z.a=1",
            "select case when exists(select*from t)then 1 else 2 end from u"};
        for (String use : uses) {
            hall = hall();
            Calls.done(hall, "create table u(k int,primary(k));create view v as " + use + ";");
            Calls.leaves(hall, "drop table t;", "S");
            Calls.play(hall, "drop view v;drop table t;", "0", "0");
        }
        // What an index is on can be dropped.
        hall = hall();
        Calls.play(hall, "create index i on t(a);drop table t;", "0", "0");
    }

    // "(insert, update, delete, queries and explain can be done with and without one; vacuum and analyze as well.)"
    private static void whatNeedsNoTransaction() {
        Snapshothall hall = hall();
        for (String begin : new String[] {"", "begin;", "begin snapshot;"}) {
            Calls.done(hall, begin + "insert into t values(9,9);update t set a=8 where k=9;delete from t where k=9;"
                    + "select*from t;explain select*from t;vacuum;analyze;");
            Calls.run(hall, "rollback;");
        }
    }

    // "FULL: one more ... transaction than there can be"
    private static void atMostTwoHundredTransactions() {
        Snapshothall hall = hall();
        for (int i = 0; i < 6; i++) {
            Calls.done(hall, Calls.many("select k from t;", "", 32));
        }
        Calls.done(hall, Calls.many("select k from t;", "", 5));
        Calls.due("transactions", hall.transactions(), 199);
        Calls.play(hall, "begin;", "0");
        Calls.due("transactions", hall.transactions(), 200);
        Calls.due("the last one", hall.transaction(199, 0), Snapshothall.OPEN);
        Calls.leaves(hall, "1:begin;", "F");
        Calls.leaves(hall, "1:begin snapshot;", "F");
        Calls.leaves(hall, "1:select*from t;", "F");
        Calls.leaves(hall, "1:insert into t values(3,3);", "F");
        Calls.leaves(hall, "1:update t set a=1;", "F");
        Calls.leaves(hall, "1:delete from t;", "F");
        Calls.leaves(hall, "begin;", "S");
        Calls.leaves(hall, "1:create table u(k int,primary(k));", "S");
        Calls.play(hall, "insert into t values(3,3);select k from t;explain select*from t;commit;", "1", "[1;2;3]", "8", "0");
        Calls.leaves(hall, "create table u(k int,primary(k));", "F");
        Calls.leaves(hall, "create view v as select*from t;", "F");
        Calls.leaves(hall, "create index i on t(a);", "F");
        Calls.leaves(hall, "drop table t;", "F");
        Calls.leaves(hall, "begin;", "F");
        Calls.play(hall, "vacuum;analyze;explain select*from t;commit;select ^x from t;", "0", "3", "8", "S", "N");
        Calls.throwsAlone(hall, "transaction 200", IndexOutOfBoundsException.class, () -> hall.transaction(200, 0));
    }

    private static void work(Snapshothall hall, String statement, boolean isLet) {
        Calls.run(hall, statement + ";");
        Calls.due("refusal of " + statement, hall.result(0, 1), isLet ? 0 : Snapshothall.FULL);
    }

    // "a WORK above 600": n is the numbers of rows of the sources, multiplied, each 0 counts as 1
    private static void workOfQueries() {
        Snapshothall hall = large();
        work(hall, "select count(*)from t,b", true);
        work(hall, "select count(*)from t,b,o", true);
        work(hall, "select count(*)from t,b,e", true);
        work(hall, "select count(*)from e,t,b", true);
        work(hall, "select count(*)from t,b where 1=2", true);
        work(hall, "select count(*)from t join b on 1=2", true);
        work(hall, "select count(*)from t left join b on 1=2", true);
        work(hall, "select count(*)from t,b union select 1 from o", false);
        work(hall, "select count(*)from t,b union select 1 from e", false);
        work(hall, "select count(*)from t,c union select count(*)from t", true);
        work(hall, "select count(*)from t,c union select count(*)from t except select 1 from e", false);
        work(hall, "select count(*)from t,c except select count(*)from d union select 1 from e", true);
        work(hall, "select count(*)from d,b,o union select count(*)from c union select 1 from o", true);
        work(hall, "select count(*)from b as x,t,e union select count(*)from e", false);
        work(hall, "select count(*)from t,t as x", false);
        work(hall, "select count(*)from t where exists(select*from b)limit 0", false);
        // Versions that are not seen do not count.
        Calls.done(hall, "delete from t where k=29;update b set k=k+100;");
        work(hall, "select count(*)from t,b union select count(*)from b", true);
        work(hall, "select count(*)from t,b union select count(*)from b union select 1 from o", false);
        Calls.done(hall, "begin;insert into o values(1);");
        work(hall, "1:select count(*)from t,b,o", true);
        work(hall, "0:select count(*)from t,b,o", false);
    }

    // "n times that of each query behind in or exists that stands in it (not within another one ...; asked or not)"
    private static void workOfNestedQueries() {
        Snapshothall hall = large();
        String to599 = "select 1 from t,c union select 1 from d";
        work(hall, "select 1 from o where exists(" + to599 + ")", true);
        work(hall, "select 1 from e where exists(" + to599 + ")", true);
        work(hall, "select 1 from o where exists(" + to599 + " union select 1 from e)", false);
        work(hall, "select 1 from o where 1 in(" + to599 + ")", true);
        work(hall, "select 1 from o where 1 not in(" + to599 + " union select 1 from e)", false);
        work(hall, "select count(*)from t where exists(select*from c)", true);
        work(hall, "select count(*)from t where exists(select*from b)", false);
        work(hall, "select count(*)from t where 1=2 and exists(select*from c)", true);
        work(hall, "select count(*)from t where 1=2 and exists(select*from b)", false);
        work(hall, "select count(*)from t where 1=1 or exists(select*from b)", false);
        work(hall, "select count(*)from t where k in(select k from c where k<9)", true);
        // Behind on, in items, behind having, in case: each counts.
        work(hall, "select count(*)from o join t on exists(select*from c)", true);
        work(hall, "select count(*)from o join t on exists(select*from b)", false);
        work(hall, "select case when exists(select*from b)then 1 else 2 end from t limit 1", false);
        work(hall, "select count(*)from t having exists(select*from b)", false);
        work(hall, "select count(*)from t having exists(select*from c)", true);
        work(hall, "select count(*)from t where exists(select*from o)and exists(select*from c where k<1)", false);
        work(hall, "select count(*)from c where exists(select*from t)and 1 in(select 1 from o)", false);
        work(hall, "select count(*)from c where exists(select*from d)and 1 in(select 1 from o)", true);
        // One within another one counts for that alone: 1 * (1 + 19 * (1 + 30)) = 590, 1 * (1 + 20 * (1 + 30)) = 621.
        work(hall, "select 1 from o where exists(select*from c where exists(select*from t))", true);
        work(hall, "select 1 from o where exists(select*from b where exists(select*from t))", false);
        work(hall, "select 1 from o where exists(select*from b where exists(select*from d))", false);
        work(hall, "select 1 from o where exists(select*from b where exists(select*from d where k<0))or 1=1", false);
        work(hall, "select 1 from o where exists(select*from c where exists(select*from d)or exists(select*from o))", true);
    }

    // "of a view those of its answer"; "and that of the query of each source that is a view"
    private static void workOfViews() {
        Snapshothall hall = large();
        Calls.done(hall, "create view v as select k from t;create view n as select count(*)as n from t,c;"
                + "create view x as select k from t where k<0;create view y as select v.k from v;");
        work(hall, "select count(*)from v,c", true);
        work(hall, "select count(*)from v,b", false);
        work(hall, "select count(*)from v,c union select 1 from e", false);
        work(hall, "select count(*)from n,t", true);
        work(hall, "select count(*)from n,t union select 1 from e", false);
        work(hall, "select count(*)from n,d,e", true);
        work(hall, "select count(*)from n,n as m", false);
        work(hall, "select count(*)from x,b,d where 1=2", false);
        work(hall, "select count(*)from x,c,t", true);
        work(hall, "select count(*)from x,c,t union select 1 from e", false);
        work(hall, "select count(*)from x", true);
        work(hall, "select count(*)from y", true);
        // y: 30 of its own, and 30 of v; so 30 * n + 60.
        work(hall, "select count(*)from y,c where c.k=1", false);
        work(hall, "select count(*)from y,b as q where q.k<18 and q.k<0", false);
        Calls.done(hall, "delete from b where k>17;");
        work(hall, "select count(*)from y,b", true);
        work(hall, "select count(*)from y,b union select 1 from e", false);
        // In a query within a test its work counts with that.
        work(hall, "select 1 from e where exists(select*from n)", true);
        work(hall, "select 1 from e where exists(select*from n,d)", true);
        work(hall, "select 1 from e where exists(select*from n,t)", false);
        work(hall, "select count(*)from o,t where exists(select*from x)", false);
        work(hall, "select count(*)from c where exists(select*from x)", false);
        work(hall, "select count(*)from b,o where exists(select*from x)and 1=2", true);
    }

    // "of an insert of values that of the queries in its tuples ... together"
    private static void workOfInserts() {
        Snapshothall hall = large();
        String one = "(case when exists(select*from t,c)then 100 else 101 end)";
        String two = "(case when 1 in(select k from t)then 102 else 103 end)";
        String three = "(case when 1 in(select k from e)then 104 else 105 end)";
        work(hall, "insert into e values" + one, true);
        work(hall, "delete from e", true);
        work(hall, "insert into e values" + one + "," + two + "," + three, false);
        work(hall, "insert into e values" + one + "," + two + ",(7)", true);
        work(hall, "delete from e", true);
        work(hall, "insert into e values(case when exists(select*from t,b)then 1 else 2 end)", true);
        work(hall, "delete from e", true);
        work(hall, "insert into e values(case when exists(select*from t,b union select*from t,e)then 1 else 2 end)", false);
        work(hall, "insert into e values(case when exists(select*from b where exists(select*from t))then 1 else 2 end)", false);
        work(hall, "insert into e values(case when exists(select*from b where exists(select*from d))then 1 else 2 end)", true);
        work(hall, "delete from e", true);
        // An insert of a query has the work of that.
        work(hall, "insert into e select count(*)from t,b", true);
        work(hall, "insert into e select 1 from o union select count(*)from t,b", false);
    }

    // "of an update or delete, with n the rows of its table that are seen (0 counts as 1), n, and n times ..."
    private static void workOfUpdatesAndDeletes() {
        Snapshothall hall = large();
        String to599 = "select 1 from t,c union select 1 from d";
        Calls.done(hall, "begin;");
        work(hall, "delete from e where exists(" + to599 + ")", true);
        work(hall, "delete from e where exists(" + to599 + " union select 2 from e)", false);
        work(hall, "delete from o where k=5 and exists(" + to599 + ")", true);
        work(hall, "delete from o where k=5 and exists(" + to599 + " union select 2 from e)", false);
        work(hall, "delete from t where k=99 and exists(select*from c)", true);
        work(hall, "delete from t where k=99 and exists(select*from b)", false);
        work(hall, "update t set k=case when exists(select*from c)then k else k end where k=99", true);
        work(hall, "update t set k=case when exists(select*from b)then k else k end where k=99", false);
        work(hall, "update t set k=case when 1 in(select 1 from o)then k else k end where k=99 and exists(select*from c "
                + "where k<0)", false);
        work(hall, "update c set k=case when 1 in(select 1 from o)then k else k end where k=99 and exists(select*from d)",
                true);
        work(hall, "update c set k=case when 1 in(select 1 from o)then k else k end where k=99 and exists(select*from t)",
                false);
        work(hall, "delete from o where k=9 and exists(select*from c where exists(select*from t))", true);
        work(hall, "delete from o where k=9 and exists(select*from b where exists(select*from t))", false);
        work(hall, "update t set k=k where k<0", true);
        work(hall, "delete from t where k<0", true);
    }

    // "an answer of a query of more than 60 rows (of the statement, or of a view that it uses)"
    private static void atMostSixtyRows() {
        Snapshothall hall = large();
        Calls.done(hall, "delete from b where k>1;insert into o values(7),(8);");
        Calls.play(hall, "select count(*)from o;", "[3]");
        work(hall, "select t.k from t,b", true);
        Calls.due("rows", hall.result(0, 2), 60);
        Calls.due("the last row", hall.isNull(0, 59, 0), false);
        Calls.refuses("row 60", IndexOutOfBoundsException.class, () -> hall.cell(0, 60, 0));
        work(hall, "select b.k from t,b union select 60 from o", true);
        Calls.due("rows", hall.result(0, 2), 3);
        work(hall, "select t.k+100*b.k from t,b union select 60 from o", false);
        work(hall, "select t.k+100*b.k from t,b union select 60 from o limit 60", true);
        work(hall, "select t.k+100*b.k from t,b union select 60 from o limit 61", false);
        work(hall, "select t.k+100*b.k from t,b union select 60 from o limit 61 offset 1", true);
        work(hall, "select t.k from t,o", false);
        work(hall, "select distinct t.k from t,o", true);
        Calls.done(hall, "begin;");
        work(hall, "open p for select t.k from t,b", true);
        work(hall, "open q for select t.k from t,o", false);
        work(hall, "insert into e select t.k+100*b.k from t,b", true);
        Calls.due("rows put in", hall.result(0, 2), 60);
        work(hall, "delete from e", true);
        work(hall, "insert into e select t.k+100*b.k from t,b union select 60 from o", false);
        Calls.done(hall, "rollback;create view v as select t.k,b.k as j from t,b;create view w as select t.k from t,o;");
        work(hall, "select*from v", true);
        Calls.due("rows of the view", hall.result(0, 2), 60);
        work(hall, "select count(*)from w", false);
        work(hall, "select k from w limit 1", false);
        work(hall, "select 1 from e where exists(select*from w)", false);
        work(hall, "delete from e where exists(select*from w)", false);
        work(hall, "insert into e values(case when exists(select*from w)then 1 else 2 end)", false);
        work(hall, "select 1 from e where exists(select*from v)", true);
        Calls.done(hall, "create view x as select count(*)as n from w;");
        work(hall, "select n from x", false);
        Calls.done(hall, "delete from o where k=8;");
        work(hall, "select n from x", true);
        Calls.due("the count", hall.cell(0, 0, 0), 60L);
    }

    // "a table that would have more than 100 versions by the statement"
    private static void atMostAHundredVersionsByAStatement() {
        Snapshothall hall = hundred();
        Calls.leaves(hall, "insert into t values(200),(201);", "F");
        Calls.leaves(hall, "insert into t select k+200 from b where k<2;", "F");
        Calls.leaves(hall, "update t set k=k+500 where k<2;", "F");
        Calls.play(hall, "insert into t select k+200 from b where k<0;update t set k=k where k<0;update t set k=500 where k=1;",
                "0", "0", "1");
        Calls.due("versions", hall.table(0, 2), 100);
        Calls.leaves(hall, "insert into t values(200);", "F");
        Calls.leaves(hall, "update t set k=k where k=2;", "F");
        Calls.play(hall, "insert into t select k+200 from b where k<0;update t set k=k where k<0;delete from t where k<50;",
                "0", "0", "49");
        Calls.leaves(hall, "insert into t values(200);", "F");
        Calls.play(hall, "vacuum;insert into t values(200);", "50", "1");
        // DEAD versions count until they are taken out.
        Calls.play(hall, "begin;insert into t select k+300 from t where k<98;rollback;", "0", "48", "0");
        Calls.due("versions", hall.table(0, 2), 99);
        Calls.leaves(hall, "insert into t values(201),(202);", "F");
        Calls.play(hall, "vacuum;insert into t values(201),(202);", "48", "2");
    }

    // "(explain is never FULL ...)"
    private static void explainIsNeverFull() {
        Snapshothall hall = large();
        Calls.done(hall, "create view w as select t.k from t,b;");
        Calls.play(hall, "explain select*from t,b,c;explain select*from w;explain select t.k from t,b;"
                + "explain select 1 from t where exists(select*from t as x,b,c);", "24", "9", "16", "33");
        Calls.due("output", Calls.output(hall), "0scan,30;2scan,1scan,0scan,11799;");
    }

    // "(... and create view not by its query, which is not asked then.)"
    private static void createViewIsNotFullByItsQuery() {
        Snapshothall hall = large();
        Calls.play(hall, "create view v as select t.k,b.k as j from t,b,c;create view w as select t.k from t,b;"
                + "create view x as select*from v,w as z;select 1 from v;select 1 from w;select 1 from x;",
                "0", "0", "0", "F", "F", "F");
        Calls.play(hall, "create view y as select k/0 as k from t;select count(k)from y;", "0", "[0]");
    }

    // "The number of a result is ..."
    private static void numbersOfResults() {
        Snapshothall hall = hall();
        int[] due = {0, 0, 0, 3, 2, 0, 5, 0, 5, 2, 0, 0, 0, 0, 0, 1, 0, 8, 7, 0, 1, 0, 0, 0, 0, 0};
        Calls.run(hall, "create table u(k int,primary(k));create index i on t(a);create view v as select*from t;"
                + "insert into t values(3,3),(4,4),(5,5);update t set a=9 where k<3;update t set a=9 where k<0;"
                + "select*from t;select*from t where k<0;select k from t;delete from t where k>3;delete from t where k>3;begin;save p;open c for select*from t;"
                + "fetch c 0;fetch c 1;close c;explain select*from u;analyze;rollback to p;insert into t values(7,7);insert into t values(1,1);commit;drop view v;drop index i;drop table u;");
        for (int i = 0; i < due.length; i++) {
            Calls.due("number of statement " + i, hall.result(i, 2), due[i]);
        }
        // Of the versions of t: five at first, two of the update, one; ended are two of the update, two of the delete.
        Calls.play(hall, "vacuum;vacuum;analyze;select ^x from t;commit;", "4", "0", "4", "N", "S");
        // The versions that were made by an insert count, also if the query has the same rows twice.
        Calls.play(hall, "insert into t select k+10,a from t;", "4");
    }

    // "The results are those of this script then."
    private static void resultsAreThoseOfTheLatestScript() {
        Snapshothall hall = hall();
        Calls.due("results", hall.results(), 2);
        Calls.run(hall, "select*from t;");
        Calls.due("results", hall.results(), 1);
        Calls.due("columns", hall.result(0, 4), 2);
        Calls.run(hall, "commit;select k from t;");
        Calls.due("results", hall.results(), 2);
        Calls.due("columns of a refusal", hall.result(0, 4), 0);
        Calls.refuses("a row of an earlier script", IndexOutOfBoundsException.class, () -> hall.cell(0, 0, 0));
        Calls.run(hall, "");
        Calls.due("results of an empty script", hall.results(), 0);
        Calls.refuses("a result of an earlier script", IndexOutOfBoundsException.class, () -> hall.result(0, 0));
    }
}
