/** Promises 11 to 16, as sections 7 to 9 tell them: sessions, transactions, marks, edges, order, clock. */
public final class TransactionTest {
    public static void main(String[] args) {
        seeing();
        numbers();
        savesBack();
        rules();
        references();
        conflicts();
        marks();
        ranges();
        edges();
        pivots();
        wrongCalls();
        Calls.end("TransactionTest");
    }

    /** A hall with t(k, a, w) of the rows (1,10,'a'), (2,20,'b'): two transactions, clock 2. */
    private static Snapshothall hall() {
        Snapshothall hall = new Snapshothall();
        Calls.play(hall, "create table t(k int,a int,w word,primary(k),unique(a));"
                + "insert into t values(1,10,'a'),(2,20,'b');", "0", "2");
        return hall;
    }

    private static void seeing() {
        Snapshothall hall = hall();
        Calls.play(hall, "0:begin snapshot;1:update t set a=11 where k=1;insert into t values(3,30,'c');"
                + "delete from t where k=2;0:select k,a from t;1:select k,a from t;"
                + "0:insert into t values(4,40,'d');select k from t;1:select k from t;0:commit;select k from t;",
                "0", "1", "1", "1", "[1,10;2,20]", "[1,11;3,30]", "1", "[1;2;4]", "[1;3]", "0", "[1;3;4]");
        // A statement sees what stands as it begins.
        Calls.play(hall, "insert into t select k+10,k+100,w from t;select k from t;update t set k=k+1 where k>10;"
                + "select k,a from t where k>10;", "3", "[1;3;4;11;13;14]", "3", "[12,101;14,103;15,104]");
        // What a transaction made and ended itself it sees at once, others as it has committed.
        Calls.play(hall, "begin;delete from t where k=1;update t set a=0 where k=3;select k,a from t where k<9;"
                + "1:select k,a from t where k<9;0:rollback;select k,a from t where k<9;", "0", "1", "1",
                "[3,0;4,40]", "[1,11;3,30;4,40]", "0", "[1,11;3,30;4,40]");
    }

    private static void numbers() {
        Snapshothall hall = hall();
        Calls.play(hall, "3:begin;2:begin snapshot;1:update t set w='c';select ^x from t;commit;insert into t values(1,1,'a');"
                + "3:select k from t;2:delete from t where k=2;3:commit;2:rollback;",
                "0", "0", "2", "N", "S", "R0", "[1;2]", "C", "0", "S");
        int[][] due = {
            {1, 1, 0, 1, 0, 1, 0, 0, 0}, {1, 1, 1, 2, 2, 3, 4, 0, 0}, {1, 1, 2, 3, 4, 8, 1, 0, 1},
            {2, 0, 2, -1, 5, -1, 0, 0, 0}, {1, 1, 2, 3, 6, 7, 5, 1, 0}, {2, 1, 3, -1, 8, -1, 1, 0, 0}};
        // The insert that a rule refused began behind the update, ahead of the commit.
        due[5][4] = 8;
        due[2][5] = 9;
        Calls.due("transactions", hall.transactions(), due.length);
        for (int t = 0; t < due.length; t++) {
            for (int what = 0; what < 9; what++) {
                Calls.due("transaction(" + t + ", " + what + ")", hall.transaction(t, what), due[t][what]);
            }
        }
        Calls.due("clock", hall.clock(), 3);
        int[] order = {0, 1, 2, 4, -1, -1};
        for (int i = 0; i < order.length; i++) {
            Calls.due("order(" + i + ")", hall.order(i), order[i]);
        }
        // A transaction that takes back all that it did has no stamp of its own.
        Calls.play(hall, "begin;save p;insert into t values(7,7,'g');rollback to p;commit;begin;commit;", "0", "0", "1",
                "0", "0", "0", "0");
        Calls.due("clock", hall.clock(), 3);
        Calls.due("stamp", hall.transaction(6, 3), 3);
        Calls.play(hall, "begin;insert into t values(7,7,'g');delete from t where k=7;commit;create index i on t(a);"
                + "drop index i;delete from t where k=99;", "0", "1", "1", "0", "0", "0", "0");
        Calls.due("clock", hall.clock(), 6);
        Calls.due("stamp of a delete of none", hall.transaction(11, 3), 6);
        Calls.due("snapshot", hall.transaction(10, 2), 5);
    }

    private static void savesBack() {
        Snapshothall hall = hall();
        Calls.play(hall, "begin;update t set a=1 where k=1;save p;insert into t values(3,3,'c');delete from t where k=2;"
                + "save q;update t set a=2 where k=1;rollback to q;select k,a from t;rollback to p;select k,a from t;"
                + "rollback to q;update t set a=5 where k=2;commit;select k,a from t;", "0", "1", "0", "1", "1", "0", "1",
                "0", "[1,1;3,3]", "0", "[1,1;2,20]", "S", "1", "0", "[1,1;2,5]");
        // Versions: two at first, then a=1, the insert, a=2, a=5; the third and fourth of these are not DEAD.
        int[][] due = {{1, 2, 0}, {1, 2, 0}, {2, -1, 0}, {2, -1, 1}, {2, -1, 1}, {2, -1, 0}};
        for (int p = 0; p < due.length; p++) {
            for (int what = 0; what < 3; what++) {
                Calls.due("version(0, " + p + ", " + what + ")", hall.version(0, p, what), due[p][what]);
            }
        }
        // A save under a name that there is takes the place of the earlier one.
        Calls.play(hall, "begin;save p;delete from t where k=1;save p;delete from t;rollback to p;select k from t;"
                + "rollback;select k from t;", "0", "0", "1", "0", "1", "0", "[2]", "0", "[1;2]");
    }

    private static void rules() {
        Snapshothall hall = new Snapshothall();
        Calls.play(hall, "create table x(k int,primary(k));create table t(k int,a int,b word not null,check(a<10),"
                + "unique(a,b),primary(k),check(k>0 or a=5));", "0", "0");
        Calls.play(hall, "insert into t values(1,null,'a'),(2,null,'a'),(3,1,'a'),(4,1,'b');"
                + "insert into t values(5,1,null);insert into t values(5,10,'a');insert into t values(5,1,'a');"
                + "insert into t values(null,2,'c');insert into t values(4,7,'a');insert into t values(-4,7,'a');"
                + "insert into t values(-4,null,'a');insert into t values(-5,5,'a');", "4", "R19", "R10", "R11", "R12",
                "R12", "R13", "1", "1");
        Calls.play(hall, "insert into t values(7,7,'a'),(7,10,'a');insert into t values(7,7,'a'),(7,8,'a');"
                + "update t set a=1 where k=1;select count(*)from t;update t set k=k+1;update t set k=3 where k>3;"
                + "update t set k=null;update t set b=null,a=99 where k>2;insert into t select k+1,a,b from t where k=2;",
                "R12", "R12", "R11", "[6]", "6", "R12", "R12", "R19", "R12");
        Calls.due("place of RULE", hall.result(5, 3), 149);
        Calls.due("number of RULE", hall.result(5, 2), 0);
        // In a transaction a RULE leaves what was done before.
        Calls.play(hall, "begin;delete from t;insert into t values(1,1,'x');insert into t values(1,2,'x');"
                + "select k,a from t;rollback;select count(*)from t;", "0", "6", "1", "R12", "[1,1]", "0", "[6]");
    }

    private static void references() {
        Snapshothall hall = new Snapshothall();
        Calls.play(hall, "create table t(k int,t int,primary(k),refer(t)to t);create table u(k int,t int,primary(k),"
                + "check(k<9),refer(t)to t);", "0", "0");
        Calls.play(hall, "insert into t values(1,2),(2,1),(3,null),(4,4);insert into t values(5,6);"
                + "insert into u values(1,3),(2,null);insert into u values(3,9);update u set t=8;delete from t where k=3;"
                + "delete from t where k=1;delete from t where k=4;delete from t where k<3;update t set k=7 where k=3;"
                + "update t set k=3,t=3 where k=3;delete from u where k=1;update t set k=7,t=7 where k=3;select*from t;",
                "4", "R1", "2", "R12", "R12", "R12", "R1", "1", "2", "R12", "1", "1", "1", "[7,7]");
        // Rows that refer count as the statement leaves them.
        Calls.play(hall, "insert into t values(1,null);insert into u values(1,1);delete from t where k=1;"
                + "begin;delete from u;delete from t where k=1;insert into t values(1,null);commit;select k from t;",
                "1", "1", "R12", "0", "2", "1", "1", "0", "[1;7]");
    }

    private static void conflicts() {
        Snapshothall hall = hall();
        Calls.play(hall, "0:begin snapshot;1:begin snapshot;0:update t set a=11 where k=1;1:update t set a=21 where k=2;"
                + "1:insert into t values(3,3,'c');1:update t set w='x';1:commit;0:delete from t where k=2;0:commit;",
                "0", "0", "1", "1", "1", "C", "S", "1", "0");
        Calls.play(hall, "select k,a from t;", "[1,11]");
        Calls.due("dead", hall.table(0, 3), 2);
        // Ended by one that committed behind the snapshot.
        hall = hall();
        Calls.play(hall, "0:begin snapshot;1:delete from t where k=1;0:delete from t where k=2;delete from t;select k from t;",
                "0", "1", "1", "C", "[2]");
        // Keys that another one made, open or committed: none sees them. A row ended by another still stands.
        hall = hall();
        Calls.play(hall, "0:begin snapshot;1:begin snapshot;0:insert into t values(3,30,'c');1:insert into t values(4,30,'d');",
                "0", "0", "1", "C");
        Calls.play(hall, "0:commit;1:begin snapshot;0:insert into t values(5,50,'e');1:insert into t values(5,51,'f');",
                "0", "0", "1", "C");
        Calls.play(hall, "1:begin snapshot;2:begin snapshot;1:delete from t where k=5;2:insert into t values(5,52,'g');"
                + "1:insert into t values(5,53,'h');2:insert into t values(6,53,'i');", "0", "0", "1", "R0", "1", "C");
        Calls.play(hall, "1:rollback;2:begin snapshot;insert into t values(6,53,'i');1:delete from t where k=6;"
                + "insert into t values(6,6,'k');2:rollback;1:insert into t values(6,53,'k');",
                "0", "0", "1", "0", "C", "0", "1");
        // References: a row that is about to go, and one that is about to come.
        hall = new Snapshothall();
        Calls.play(hall, "create table t(k int,primary(k));create table u(k int,t int,primary(k),refer(t)to t);"
                + "insert into t values(1),(2);", "0", "0", "2");
        Calls.play(hall, "0:begin snapshot;1:begin snapshot;0:delete from t where k=1;1:insert into u values(1,1);"
                + "1:begin snapshot;1:insert into u values(1,2);0:delete from t where k=2;0:commit;1:commit;",
                "0", "0", "1", "C", "0", "1", "C", "S", "0");
        Calls.play(hall, "select k from t;select*from u;0:begin snapshot;1:delete from u;0:delete from t where k=2;",
                "[1;2]", "[1,2]", "0", "1", "R11");
    }

    private static int marksOf(Snapshothall hall, String statement) {
        Calls.type(hall, statement);
        hall.run();
        return hall.transaction(hall.transactions() - 1, 6);
    }

    private static void marks() {
        Snapshothall hall = hall();
        Calls.play(hall, "create table u(k int,a int,check(k>0),primary(k),unique(a,k),refer(a)to u,refer(k)to t);"
                + "create view v as select t.k from t,t as x;create view y as select v.k from v,u where exists("
                + "select*from t);", "0", "0", "0");
        Object[][] due = {
            {"select*from t;", 1}, {"select*from t,u,t as x where t.k=5;", 3}, {"select*from v;", 2},
            {"select*from y,v;", 6}, {"select 1 from t union select 1 from t where exists(select*from u);", 3},
            {"select k from t where k in(select k from v)and k=null;", 3},
            {"insert into u values(1,null);", 2}, {"insert into u values(2,1);", 4}, {"delete from u where a=7;", 1},
            {"insert into u values(-1,1);", 0}, {"insert into u values(null,1);", 0}, {"insert into u values(1,1);", 1},
            {"insert into u values(7,null);", 2}, {"insert into u values(7,7);", 4}, {"insert into u values(7,8);", 3},
            {"insert into u select k,k from t where k=2;", 2}, {"update u set a=2 where k=2;", 5},
            {"update u set k=9 where k=2;", 4}, {"delete from u where k=1;", 2},
            {"delete from t where k=1;", 2}, {"delete from u;", 2}, {"delete from t where k=1;", 1},
            {"update t set w='x'where exists(select*from u);", 2}, {"update t set w='x';", 3},
            {"insert into t values(7,70,case when exists(select*from t,u)then'a'else'b'end);", 4},
            {"insert into t values(8,null,'a'),(9,null,'b');", 2}, {"create index i on t(k);", 0}};
        for (Object[] one : due) {
            Calls.due("marks of " + one[0], marksOf(hall, (String) one[0]), one[1]);
        }
        // In a transaction they come together, also those of what is refused as RULE, but not NAMES, STATE, FULL.
        Calls.play(hall, "begin;select*from t;insert into t values(7,1,'a');select ^x from t;begin;explain select*from t;"
                + "open c for select*from t,u;fetch c 1;save p;rollback to p;commit;", "0",
                "[2,20,120;7,70,98;8,-,97;9,-,98]", "R0", "N", "S", "8", "0", "[]", "0", "0", "0");
        Calls.due("marks together", hall.transaction(hall.transactions() - 1, 6), 4);
        Calls.play(hall, "begin snapshot;select*from u;delete from t where k=9;rollback;", "0", "[]", "1", "0");
        Calls.due("marks of SNAPSHOT", hall.transaction(hall.transactions() - 1, 6), 0);
    }

    /** Whether a query has a mark that a row with the key 5, made by another transaction, is of. */
    private static void range(String query, boolean want) {
        Snapshothall hall = hall();
        Calls.play(hall, "create view v as select*from t;1:begin;insert into t values(5,50,'e');", "0", "0", "1");
        Calls.type(hall, "0:begin;" + query + ";");
        hall.run();
        Calls.due("refusal of " + query, hall.result(1, 1), 0);
        Calls.due("edge by " + query, hall.isEdge(4, 3), want);
        Calls.due("edge back by " + query, hall.isEdge(3, 4), false);
        Calls.due("edges from", hall.transaction(4, 8), want ? 1 : 0);
        Calls.due("edges to", hall.transaction(3, 7), want ? 1 : 0);
    }

    private static void ranges() {
        range("select*from t", true);
        range("select*from t where k=5", true);
        range("select*from t where k=4", false);
        range("select*from t where 6=k", false);
        range("select*from t where k<5", false);
        range("select*from t where k<=5", true);
        range("select*from t where k>5", false);
        range("select*from t where k>=5", true);
        range("select*from t where 5<k", false);
        range("select*from t where 5<=k", true);
        range("select*from t where 5>k", false);
        range("select*from t where 5>=k", true);
        range("select*from t where k<>5", true);
        range("select*from t where k>2 and k<2*2+1", false);
        range("select*from t where k>2 and k<2*2+2", true);
        range("select*from t where k>2 and a=1 and 1=1 and k<4", false);
        range("select*from t where k=4 or k=4", true);
        range("select*from t where [k=4]", true);
        range("select*from t where (k)=4", true);
        range("select*from t where not k=5", true);
        range("select*from t where k=null", false);
        range("select*from t where k<null+5", false);
        range("select*from t where k in(1,2)", true);
        range("select*from t where k between 1 and 2", true);
        range("select*from t where k+0=4", true);
        range("select*from t where a=4", true);
        range("select*from t where k=a", true);
        range("select*from t where k=case when 1=1 then 4 else 5 end", false);
        range("select*from t where k=case when a=1 then 4 else 5 end", true);
        range("select*from t where k=case when exists(select*from v where 1=2)then 4 else 4 end", true);
        range("select count(*)from t where k<5 having min(k)=1", false);
        range("select*from t as x where x.k=4", false);
        range("select*from t,t as x where t.k=4 and x.k=3", false);
        range("select*from t,t as x where t.k=4", true);
        range("select*from t join t as x on x.k=4 where t.k=4", true);
        range("select*from t join t as x on 1=1 where t.k=4 and x.k<4", false);
        range("select*from t left join t as x on 1=1 where t.k=4 and x.k=4", true);
        range("select*from v where k=4", true);
        range("delete from t where k=4", false);
        range("delete from t where k>4", true);
        range("update t set w='z'where k=1", false);
        range("update t set w='z'where w='q'", true);
        range("select*from t where k=4 union select*from t where k=3", false);
        range("select*from t where k=4 and exists(select*from t where k=3)", false);
        range("select*from t where k=4 and exists(select*from t as x where x.k=t.k)", true);
        range("insert into t values(4,40,case when exists(select*from t where k<5)then'a'else'b'end)", false);
        range("insert into t select 4,40,w from t where k=1", false);
        range("open c for select*from t where k>4", true);
        range("explain select*from t", false);
    }

    private static void edges() {
        // Marks and writes count, whichever came first, also those that were taken back, vacuumed away too.
        Snapshothall hall = hall();
        Calls.play(hall, "0:begin;1:begin;2:begin;0:select*from t where k=7;1:save p;insert into t values(7,7,'g');"
                + "rollback to p;vacuum;", "0", "0", "0", "[]", "0", "1", "0", "1");
        Calls.due("edge to one that took back", hall.isEdge(2, 3), true);
        Calls.play(hall, "2:select*from t where a=7;", "[]");
        Calls.due("edge behind vacuum", hall.isEdge(4, 3), true);
        Calls.due("no edge to a reader", hall.isEdge(2, 4), false);
        Calls.play(hall, "0:commit;1:commit;2:commit;", "0", "0", "0");
        Calls.due("edge stays", hall.isEdge(2, 3), true);
        Calls.due("edges to", hall.transaction(3, 7), 2);
        Calls.due("edges from", hall.transaction(3, 8), 0);
        int[] order = {0, 1, 2, 4, 3, -1};
        for (int i = 0; i < order.length; i++) {
            Calls.due("order(" + i + ")", hall.order(i), order[i]);
        }
        // By unique, both made a row of the mark of the other one.
        Calls.play(hall, "0:begin;1:begin;save p;insert into t values(7,7,'g');rollback to p;"
                + "0:insert into t values(8,7,'h');", "0", "0", "0", "1", "0", "C");
        Calls.play(hall, "1:rollback;", "0");
        // An edge goes when one of both is rolled back; one that ended ahead of a begin has none.
        Calls.play(hall, "0:begin;1:begin;0:select*from t;1:insert into t values(9,9,'i');", "0", "0",
                "[1,10,97;2,20,98]", "1");
        Calls.due("edge", hall.isEdge(7, 8), true);
        Calls.play(hall, "1:rollback;", "0");
        Calls.due("edge of a rolled back one", hall.isEdge(7, 8), false);
        Calls.due("edges from", hall.transaction(7, 8), 0);
        Calls.play(hall, "0:commit;insert into t values(9,9,'i');", "0", "1");
        Calls.due("no edge behind a commit", hall.isEdge(7, 9), false);
        // Ended and made rows of an update both count; SNAPSHOT has no edges.
        hall = hall();
        Calls.play(hall, "0:begin;1:begin;2:begin snapshot;0:select*from t where k=1;1:select*from t where k=5;"
                + "2:select*from t where k=1;3:update t set k=5 where k=1;", "0", "0", "0", "[1,10,97]", "[]", "[1,10,97]",
                "1");
        Calls.due("edge by the ended row", hall.isEdge(2, 5), true);
        Calls.due("edge by the made row", hall.isEdge(3, 5), true);
        Calls.due("no edge from SNAPSHOT", hall.isEdge(4, 5), false);
        Calls.due("no edge between readers", hall.isEdge(2, 3), false);
        // The row of another table, and the rows that refer.
        hall = new Snapshothall();
        Calls.play(hall, "create table t(k int,a int,primary(k));create table u(k int,t int,primary(k),refer(t)to t);"
                + "insert into t values(1,1),(2,2);", "0", "0", "2");
        Calls.play(hall, "0:begin;1:begin;0:insert into u values(1,1);1:update t set a=5 where k=1;", "0", "0", "1", "1");
        Calls.due("edge by refer", hall.isEdge(3, 4), true);
        // The row that refers was taken back, but both have looked at what the other one wrote.
        Calls.play(hall, "2:begin;3:begin;2:save p;insert into u values(3,2);rollback to p;3:delete from t where k=2;",
                "0", "0", "0", "1", "0", "C");
        Calls.play(hall, "0:commit;1:commit;2:commit;insert into u values(5,2);2:begin;3:begin;save p;delete from u "
                + "where k=5;rollback to p;2:delete from t where k=2;", "0", "0", "0", "1", "0", "0", "0", "1", "0", "R11");
        Calls.due("edge by rows that refer", hall.isEdge(8, 9), true);
    }

    private static void pivots() {
        // Each has an edge to the other one: the statement that brings the second edge is refused.
        Snapshothall hall = hall();
        Calls.play(hall, "0:begin;1:begin;0:select*from t;insert into t values(5,5,'e');1:select*from t;",
                "0", "0", "[1,10,97;2,20,98]", "1", "[1,10,97;2,20,98]");
        Calls.due("edge", hall.isEdge(3, 2), true);
        Calls.play(hall, "1:insert into t values(6,6,'f');commit;0:commit;", "C", "S", "0");
        Calls.due("rolled back", hall.transaction(3, 0), 2);
        Calls.due("it was never there", hall.table(0, 2), 3);
        Calls.due("entries", hall.index(0, 2), 3);
        // One in the middle, which committed already: a query in a transaction of its own is refused.
        hall = hall();
        Calls.play(hall, "0:begin;1:begin;1:select*from t where k=1;2:begin;2:insert into t values(7,7,'g');"
                + "0:update t set w='x'where k=1;", "0", "0", "[1,10,97]", "0", "1", "1");
        Calls.due("edge", hall.isEdge(3, 2), true);
        Calls.play(hall, "0:select*from t where k=7;", "C");
        Calls.due("edge gone", hall.isEdge(3, 2), false);
        Calls.play(hall, "1:commit;2:commit;", "0", "0");
        // In place of RULE, too.
        hall = hall();
        Calls.play(hall, "0:begin;1:begin;0:update t set w='x'where k=1;0:select*from t where k=7;"
                + "1:insert into t values(7,7,'g');insert into t values(1,1,'z');commit;", "0", "0", "1", "[]", "1", "C", "S");
        // SNAPSHOT transactions may both write what the other one read.
        hall = hall();
        Calls.play(hall, "0:begin snapshot;1:begin snapshot;0:select sum(a)from t;1:select sum(a)from t;"
                + "0:update t set a=11 where k=1;1:update t set a=21 where k=2;0:commit;1:commit;select sum(a)from t;",
                "0", "0", "[30]", "[30]", "1", "1", "0", "0", "[32]");
        // A statement of its own is refused as well.
        hall = hall();
        Calls.play(hall, "0:begin;select*from t where k=2;1:update t set w='z'where k=2;0:update t set w='q'where k=1;",
                "0", "[2,20,98]", "1", "1");
        Calls.play(hall, "1:select*from t where k=1;begin;select*from t where k=5;0:rollback;1:commit;",
                "C", "0", "[]", "0", "0");
    }

    private static void wrongCalls() {
        Snapshothall hall = hall();
        Calls.refuses("session -1", IndexOutOfBoundsException.class, () -> hall.session(-1, 0));
        Calls.refuses("session 4", IndexOutOfBoundsException.class, () -> hall.session(4, 9));
        Calls.refuses("session what 3", IllegalArgumentException.class, () -> hall.session(3, 3));
        Calls.refuses("session what -1", IllegalArgumentException.class, () -> hall.session(0, -1));
        Calls.refuses("transaction -1", IndexOutOfBoundsException.class, () -> hall.transaction(-1, 0));
        Calls.refuses("transaction 2", IndexOutOfBoundsException.class, () -> hall.transaction(2, 9));
        Calls.refuses("transaction what 9", IllegalArgumentException.class, () -> hall.transaction(1, 9));
        Calls.refuses("transaction what -1", IllegalArgumentException.class, () -> hall.transaction(1, -1));
        Calls.refuses("isEdge from 2", IndexOutOfBoundsException.class, () -> hall.isEdge(2, 0));
        Calls.refuses("isEdge to -1", IndexOutOfBoundsException.class, () -> hall.isEdge(0, -1));
        Calls.refuses("order -1", IllegalArgumentException.class, () -> hall.order(-1));
        Calls.due("order beyond", hall.order(2), Snapshothall.NONE);
        Calls.due("order far beyond", hall.order(Integer.MAX_VALUE), Snapshothall.NONE);
        Calls.due("no edge to itself", hall.isEdge(1, 1), false);
    }
}
