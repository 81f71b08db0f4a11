/** Promise 5 as section 3 tells it: STATE, FULL and WORK, and the order in which refusals are told. */
public final class StateTest {
    public static void main(String[] args) {
        states();
        drops();
        saves();
        cursors();
        made();
        rows();
        work();
        versions();
        Calls.end("StateTest");
    }

    private static Snapshothall hall() {
        Snapshothall hall = new Snapshothall();
        Calls.play(hall, "create table t(k int,a int,primary(k));insert into t values(1,1),(2,2);", "0", "2");
        return hall;
    }

    private static void states() {
        Snapshothall hall = hall();
        Calls.play(hall, "commit;rollback;rollback to p;save p;open c for select*from t;fetch c 1;close c;",
                "S", "S", "S", "S", "S", "S", "S");
        Calls.due("place of STATE", hall.result(3, 3), 30);
        Calls.due("number of STATE", hall.result(3, 2), 0);
        Calls.play(hall, "1:begin;begin;begin snapshot;0:create table b(k int,primary(k));create index i on t(a);"
                + "create view v as select*from t;drop table t;insert into t values(3,3);2:vacuum;analyze;"
                + "explain select*from t;1:commit;", "0", "S", "S", "S", "S", "S", "S", "1", "0", "3", "8", "0");
        Calls.due("no transaction by STATE", hall.transactions(), 4);
        // NAMES is told ahead of STATE, and STATE ahead of FULL.
        Calls.play(hall, "begin;create table ^b(k int);begin;create table b(k int,primary(k));rollback;",
                "0", "N", "S", "S", "0");
        Calls.play(hall, "open c for select ^x from t;", "N");
    }

    private static void drops() {
        Snapshothall hall = hall();
        Calls.play(hall, "create view v as select 1 from t where exists(select*from t);create view x as select*from v;"
                + "drop table t;drop view v;drop view x;drop view v;drop table t;", "0", "0", "S", "S", "0", "0", "0");
        hall = hall();
        Calls.play(hall, "create table u(k int,t int,primary(k),refer(t)to t);drop table t;drop table u;drop table t;",
                "0", "S", "0", "0");
        hall = new Snapshothall();
        Calls.play(hall, "create table t(k int,primary(k),refer(k)to t);create index i on t(k);drop index i;"
                + "drop table t;", "0", "0", "0", "0");
        hall = hall();
        Calls.play(hall, "create table u(k int,primary(k));create view v as select 1 from t where k in(select k from u);"
                + "drop table u;", "0", "0", "S");
    }

    private static void saves() {
        Snapshothall hall = hall();
        Calls.play(hall, "begin;save a;save b;save c;save d;save a;rollback to d;rollback to b;rollback to a;save e;",
                "0", "0", "0", "0", "S", "0", "S", "0", "S", "0");
        // b is the first one by now; c and a stood behind it.
        Calls.due("saves", hall.session(0, 1), 2);
        Calls.play(hall, "rollback to b;rollback to b;rollback to e;", "0", "0", "S");
        Calls.due("saves", hall.session(0, 1), 1);
        Calls.play(hall, "commit;begin;rollback to b;", "0", "0", "S");
        Calls.due("saves of a new transaction", hall.session(0, 1), 0);
    }

    private static void cursors() {
        Snapshothall hall = hall();
        Calls.play(hall, "begin;open c for select k,a from t;open c for select*from t;open d for select 'ab'from t;"
                + "open e for select*from t;fetch e 1;close e;", "0", "0", "S", "0", "S", "S", "S");
        Calls.due("columns of open", hall.result(1, 4), 0);
        Calls.due("cursors", hall.session(0, 2), 2);
        Calls.play(hall, "update t set a=9;insert into t values(3,3);fetch c 1;fetch c 0;fetch c 5;fetch c 5;",
                "2", "1", "[1,1]", "[]", "[2,2]", "[]");
        Calls.play(hall, "fetch d 1;close c;fetch d 999999999;fetch c 1;open c for select k from t;fetch c 9;",
                "[24930]", "0", "[24930]", "S", "0", "[1;2;3]");
        Calls.play(hall, "vacuum;close d;open e for select k from t where k>2;fetch e 2;fetch c 2;commit;begin;fetch c 1;",
                "0", "0", "0", "[3]", "[]", "0", "0", "S");
    }

    private static void made() {
        Snapshothall hall = new Snapshothall();
        for (int i = 0; i < 6; i++) {
            Calls.play(hall, "create table t" + (char) ('a' + i) + "(k int,primary(k));", "0");
        }
        Calls.play(hall, "create table tg(k int,primary(k));create index i on ta(k);create index j on ta(k);"
                + "create index l on ta(k);drop index i;create index l on ta(k);", "F", "0", "0", "F", "0", "0");
        Calls.due("no transaction by FULL", hall.transactions(), 10);
        // A table needs an index, too.
        Calls.play(hall, "drop table tf;create index m on ta(k);create table tf(k int,primary(k));drop index m;"
                + "create table tf(k int,primary(k));", "0", "0", "F", "0", "0");
        Calls.due("number of the new table", hall.tableOf(Calls.word("tf")), 6);
        hall = new Snapshothall();
        for (int i = 0; i < 12; i++) {
            Calls.play(hall, "create table t(k int,primary(k));drop table t;", "0", "0");
        }
        Calls.play(hall, "create table t(k int,primary(k));", "F");
        hall = hall();
        for (int i = 0; i < 15; i++) {
            Calls.play(hall, "create index i on t(a);drop index i;", "0", "0");
        }
        Calls.play(hall, "create index i on t(a);create table u(k int,primary(k));", "F", "F");
        hall = hall();
        for (int i = 0; i < 4; i++) {
            Calls.play(hall, "create view v" + (char) ('a' + i) + " as select*from t;", "0");
        }
        Calls.play(hall, "create view ve as select*from t;drop view va;create view ve as select*from t;", "F", "0", "0");
        hall = hall();
        for (int i = 0; i < 33; i++) {
            Calls.play(hall, "select k from t;select k from t;select k from t;select k from t;select k from t;"
                    + "delete from t where k=9;", "[1;2]", "[1;2]", "[1;2]", "[1;2]", "[1;2]", "0");
        }
        Calls.due("transactions", hall.transactions(), 200);
        Calls.play(hall, "select k from t;delete from t;insert into t values(1,1);begin;begin snapshot;"
                + "create view v as select*from t;drop table t;explain select*from t;vacuum;analyze;commit;select ^x from t;",
                "F", "F", "F", "F", "F", "F", "F", "8", "0", "2", "S", "N");
    }

    /** A table t with the keys 0 to 29, and two tables b and e with the keys 0, 1, and none. */
    private static Snapshothall large() {
        Snapshothall hall = new Snapshothall();
        Calls.play(hall, "create table t(k int,a int,primary(k));create table b(k int,primary(k));"
                + "create table e(k int,primary(k));insert into b values(0),(1);", "0", "0", "0", "2");
        Calls.play(hall, "insert into t values(0,0),(1,0),(2,0),(3,0),(4,0),(5,0),(6,0),(7,0),(8,0),(9,0);"
                + "insert into t select k+10,0 from t;insert into t select k+20,0 from t where k<10;", "10", "10", "10");
        return hall;
    }

    private static void rows() {
        Snapshothall hall = large();
        Calls.type(hall, "select t.k from t,b;select t.k from t,b union select 60 from b;insert into t select 100+b.k,0 "
                + "from b;create view v as select t.k from t,b;select count(*)from v;select t.k from t,b limit 60;");
        hall.run();
        Calls.due("60 rows", hall.result(0, 2), 60);
        Calls.due("duplicates left out", hall.result(1, 2), 31);
        Calls.due("insert", hall.result(2, 2), 2);
        Calls.due("a view of 64 rows", Calls.told(hall, 4), "F");
        Calls.due("a limit", hall.result(5, 2), 60);
        Calls.play(hall, "select t.k from t,b;begin;open c for select t.k from t,b;explain select*from v;"
                + "create view x as select*from v;rollback;", "F", "0", "F", "9", "S", "0");
        Calls.play(hall, "insert into e select k from v;delete from e where exists(select*from v);create view x as "
                + "select*from v;select count(*)from v where 1=2;", "F", "F", "0", "F");
        int transactions = hall.transactions();
        Calls.play(hall, "select t.k from t,b;", "F");
        Calls.due("no transaction by FULL", hall.transactions(), transactions);
    }

    private static void work() {
        Snapshothall hall = large();
        // 20 * 30 are 600 rows, an empty source counts as 1.
        Calls.play(hall, "create table c(k int,primary(k));insert into c select k from t where k<20;", "0", "20");
        Calls.play(hall, "select count(*)from t,c;select count(*)from t,c,e;select count(*)from t,c,b;"
                + "select count(*)from t,t as u;", "[600]", "[0]", "F", "F");
        // 1 * (1 + 600), and 1 * (1 + 30).
        Calls.play(hall, "select 1 from e where exists(select*from t,c);select 1 from e where k in(select k from t);"
                + "explain select 1 from e where exists(select*from t,c);", "F", "[]", "24");
        // 30 * (1 + 19 + ..): the queries count whether they are asked or not, those within them for these.
        Calls.play(hall, "delete from c where k=19;select count(*)from t where 1=2 and exists(select*from c);"
                + "select count(*)from t where exists(select*from c)or 1 in(select k from e);",
                "1", "[0]", "F");
        Calls.play(hall, "select count(*)from b where exists(select*from b where exists(select*from t,b));"
                + "select count(*)from b where exists(select*from b where exists(select*from t,b)and exists(select*"
                + "from t,b));", "[2]", "[2]");
        Calls.play(hall, "select count(*)from b where exists(select*from b where exists(select*from t,b)and exists("
                + "select*from t,b,e)and exists(select*from t));", "F");
        // Blocks together: 570 + 30, and 570 + 31.
        Calls.play(hall, "select count(*)from t,c union select count(*)from t;"
                + "select count(*)from t,c union select count(*)from t union select 1 from e;", "[570;30]", "F");
        // A view has the work of its query besides its rows: 30 + 30, twice; and 570 + 1 + 30.
        Calls.play(hall, "create view v as select k from t;create view x as select count(*)as n from t,c;"
                + "select count(*)from v;select n from x;select n,count(*)from x,b as y,v group by n;"
                + "select n from x,v;", "0", "0", "[30]", "[570]", "F", "F");
        Calls.play(hall, "select n,k from x,b;select n from x,b,e;select n from x,c;select n from x,c,e where 1=2;",
                "[570,0;570,1]", "[]", "[" + "570;".repeat(18) + "570]", "[]");
        changes(hall);
    }

    private static void changes(Snapshothall hall) {
        // Values: 570, and 570 + 30 + 1; an update: 30 * (1 + 19), and 30 * (1 + 19 + 1).
        String asked = "case when exists(select*from t,c)then 5 else 6 end";
        Calls.play(hall, "insert into e values(" + asked + ");delete from e;", "1", "1");
        Calls.play(hall, "insert into e values(" + asked + "),(case when exists(select*from t)then 7 else 8 end),"
                + "(case when exists(select*from e)then 9 else 10 end);", "F");
        Calls.play(hall, "update t set a=case when exists(select*from c)then 1 else 2 end where k=1;"
                + "update t set a=case when exists(select*from c)then 1 else 2 end where k in(select k from e);"
                + "delete from t where exists(select*from c)and k in(select k from e);"
                + "delete from e where exists(select*from t,c);delete from t where k=29 and exists(select*from c);",
                "1", "F", "F", "0", "1");
    }

    private static void versions() {
        Snapshothall hall = new Snapshothall();
        Calls.play(hall, "create table t(k int,a int,primary(k));insert into t values(0,0),(1,0),(2,0),(3,0),(4,0);"
                + "insert into t select k+5,0 from t;insert into t select k+10,0 from t;"
                + "insert into t select k+20,0 from t;insert into t select k+40,0 from t where k<10;"
                + "update t set a=1;", "0", "5", "5", "10", "20", "10", "50");
        Calls.due("versions", hall.table(0, 2), 100);
        Calls.play(hall, "insert into t values(50,0);update t set a=2 where k=1;update t set a=2 where k=99;"
                + "insert into t select 99,1 from t where k=99;delete from t where k=1;vacuum;"
                + "update t set a=2 where k=1;update t set a=2;update t set a=3;update t set a=3 where k=2;",
                "F", "F", "0", "0", "1", "51", "0", "49", "F", "1");
        Calls.due("versions", hall.table(0, 2), 99);
        // RULE and CONFLICT are told behind FULL.
        Calls.play(hall, "insert into t values(2,0),(2,0);insert into t values(2,0);", "F", "R0");
        Calls.due("versions behind RULE", hall.table(0, 2), 99);
    }
}
