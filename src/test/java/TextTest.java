/** Promises 1 to 5: a new object, type, clearText, fault, run. */
public final class TextTest {
    public static void main(String[] args) {
        fresh();
        typing();
        faults();
        limits();
        running();
        Calls.end("TextTest");
    }

    private static void fresh() {
        Snapshothall hall = new Snapshothall();
        Calls.due("results", hall.results(), 0);
        Calls.due("output", hall.outputByte(0), Snapshothall.NONE);
        Calls.due("transactions", hall.transactions(), 0);
        Calls.due("clock", hall.clock(), 0);
        Calls.due("writes", hall.writes(), 0);
        Calls.due("isDown", hall.isDown(), false);
        Calls.due("checksum", hall.checksum(), 0L);
        Calls.due("clearText", hall.clearText(), 0);
        Calls.due("fault", hall.fault(), Snapshothall.NONE);
        Calls.due("run", hall.run(), 0);
        Calls.due("order", hall.order(0), Snapshothall.NONE);
        for (int i = 0; i < 4; i++) {
            Calls.due("transaction of session", hall.session(i, 0), Snapshothall.NONE);
        }
    }

    private static void typing() {
        Snapshothall hall = new Snapshothall();
        Calls.due("type of nothing", hall.type(0, 0, 0, 0, 0), 0);
        Calls.due("type", hall.type(0x6162L, 0, 0x63L, 0x6400000000000065L, 0x0066006700L), 7);
        Calls.refuses("a byte below 32", IllegalArgumentException.class, () -> hall.type(31, 0, 0, 0, 0));
        Calls.refuses("a byte above 126", IllegalArgumentException.class, () -> hall.type(0, 0, 0, 0, 127));
        Calls.refuses("a negative number", IllegalArgumentException.class, () -> hall.type(97, 0, -1, 0, 0));
        Calls.due("length behind exceptions", hall.type(126, 32, 0, 0, 0), 9);
        Calls.due("clearText", hall.clearText(), 9);
        long eight = 0x2020202020202020L;
        for (int i = 0; i < 17; i++) {
            Calls.due("type of forty", hall.type(eight, eight, eight, eight, eight), 40 * (i + 1));
        }
        Calls.due("type of twenty", hall.type(eight, eight, 0x20202020L, 0, 0), 700);
        Calls.refuses("one more byte", IllegalStateException.class, () -> hall.type(32, 0, 0, 0, 0));
        Calls.refuses("a wrong byte ahead of length", IllegalArgumentException.class,
                () -> hall.type(32, 0, 0, 0, 200));
        Calls.due("type of nothing more", hall.type(0, 0, 0, 0, 0), 700);
        Calls.due("fault of blanks", hall.fault(), Snapshothall.NONE);
        // The bytes stand in their order, the highest one first.
        Snapshothall other = new Snapshothall();
        other.type(0x626567696e3bL, 0, 0, 0, 0);
        Calls.due("fault of begin", other.fault(), Snapshothall.NONE);
        Calls.due("run of begin", other.run(), 1);
        Calls.due("begun", other.session(0, 0), 0);
    }

    private static void faults() {
        Calls.fault("");
        Calls.fault("  ^x");
        Calls.fault("begin;commit;");
        Calls.fault("begin^");
        Calls.fault("begin  ^");
        Calls.fault("begin ^begin;");
        Calls.fault("3:begin;^4:commit;");
        Calls.fault("^00:begin;");
        Calls.fault("0^begin;");
        Calls.fault("0:^1:begin;");
        Calls.fault("^snapshot;");
        Calls.fault("begin snapshot;rollback to a;rollback;save a;close c;fetch c 3;vacuum;analyze;");
        Calls.fault("fetch c ^a;");
        Calls.fault("fetch c ^1234567890;");
        Calls.fault("save ^verylongs;");
        Calls.fault("save ^table;");
        Calls.fault("drop table t;drop index i;drop view v;drop ^t;");
        Calls.fault("create table t(k int,w word not null,primary(k),unique(k,w),check(k>1),refer(k)to t);");
        Calls.fault("create table t(k int,primary(k),^w word);");
        Calls.fault("create table t(k ^t);");
        Calls.fault("create table t(k int ^null);");
        Calls.fault("create table t(^primary(k));");
        Calls.fault("create table t(k int,primary(k^,w));");
        Calls.fault("create index i on t(a,b);create index i on t^;");
        Calls.fault("create view v as select*from t;create view v as ^t;");
        Calls.fault("insert into t values(1,'a'),(null,-2);insert into t select 1 from u;");
        Calls.fault("insert into t values(^);");
        Calls.fault("insert into t values(^'a,1);");
        Calls.fault("insert into t values(^'',1);");
        Calls.fault("insert into t values(^'ninechars',1);");
        Calls.fault("insert into t values(^'A',1);");
        Calls.fault("insert into t values(1 ^!);");
        Calls.fault("update t set a=1,b=b+1 where a<>b or a<=1 and b>=2;update t set a^<1;");
        Calls.fault("delete from t where a is not null;delete from t where a is not ^a;");
        Calls.fault("delete from t where a not ^=1;");
        Calls.fault("delete from t where not a in(1,2)and a not in(select a from t)and a between 1 and 2;");
        Calls.fault("delete from t where a between 1 ^or 2;");
        Calls.fault("delete from t where a^;");
        Calls.fault("delete from t where [a=1 or b=1]and exists(select*from t);");
        Calls.fault("delete from t where (a^=1);");
        Calls.fault("select distinct a as x,t.b from t as u join w on a=b left join x on 1=1 group by a,u.b having a>1;");
        Calls.fault("select * from t,u left ^on 1=1;");
        Calls.fault("select *^,a from t;");
        Calls.fault("select a from t union select b from t except select*from u order by 1,2 down limit 1 offset 2;");
        Calls.fault("select a from t order by ^a;");
        Calls.fault("select a from t ^offset 2;");
        Calls.fault("select count(*),count(distinct a),sum(a),min(a+1),max(distinct a)from t;");
        Calls.fault("select sum(^*)from t;");
        Calls.fault("select case when a=1 then 1 else 2 end,coalesce(1,2)from t;");
        Calls.fault("select coalesce(1^)from t;");
        Calls.fault("select a.^1 from t;");
        Calls.fault("select 1+ ^*2 from t;");
        Calls.fault("explain select 1 from t;open c for select 1 from t;explain ^begin;");
        Calls.fault("select k ^t;");
        Calls.fault("select a from t where a=1 group ^a;");
        // A fault is told where it is, also if one of signs stands behind it.
        Calls.fault("select a from t where ^from !;");
    }

    private static String many(String part, String comma, int times) {
        StringBuilder text = new StringBuilder();
        for (int i = 0; i < times; i++) {
            text.append(i == 0 ? "" : comma).append(part);
        }
        return text.toString();
    }

    private static void limits() {
        Calls.fault(many("begin;", "", 40));
        Calls.fault(many("begin;", "", 40) + "^commit;");
        Calls.fault(many("begin;", "", 40) + " ^0:commit;");
        Calls.fault("create table t(" + many("a int", ",", 6) + "," + many("primary(a)", ",", 6) + ");");
        Calls.fault("create table t(" + many("a int", ",", 6) + "^,a int);");
        Calls.fault("create table t(a int," + many("primary(a)", ",", 6) + "^,unique(a));");
        Calls.fault("select " + many("a", ",", 10) + " from t;");
        Calls.fault("select " + many("a", ",", 10) + "^,a from t;");
        Calls.fault("insert into t values" + many("(1)", ",", 10) + ";");
        Calls.fault("insert into t values" + many("(1)", ",", 10) + "^,(1);");
        Calls.fault("insert into t values(" + many("1", ",", 100) + ");");
        Calls.fault("select 1 from t,t,t;");
        Calls.fault("select 1 from t,t,t^,t;");
        Calls.fault("select 1 from t,t,t ^join t on 1=1;");
        Calls.fault("select 1 from t,t,t ^left join t on 1=1;");
        Calls.fault("select 1 from t group by a,b,c;");
        Calls.fault("select 1 from t group by a,b,c^,d;");
        Calls.fault("select 1 from t order by 1,2,3;");
        Calls.fault("select 1 from t order by 1,2,3^,4;");
        Calls.fault("delete from t where a in(1,2,3,4,5,6);");
        Calls.fault("delete from t where a in(1,2,3,4,5,6^,7);");
        Calls.fault("select 1 from t union select 1 from t except select 1 from t;");
        Calls.fault("select 1 from t union select 1 from t except select 1 from t ^union select 1 from t;");
        Calls.fault("update t set " + many("a=1", ",", 50) + ";");
        Calls.fault("select " + many("(", "", 8) + "1" + many(")", "", 8) + " from t;");
        Calls.fault("select " + many("(", "", 8) + "^(1);");
        Calls.fault("select " + many("-", "", 8) + "1 from t;");
        Calls.fault("select " + many("-", "", 8) + "^-1 from t;");
        Calls.fault("select " + many("(", "", 8) + "^-1 from t;");
        Calls.fault("select " + many("(", "", 8) + "1-1" + many(")", "", 8) + "+(1)from t;");
        Calls.fault("select " + many("(", "", 8) + "^case when 1=1 then 1 else 1 end from t;");
        Calls.fault("select " + many("(", "", 8) + "count^(*) from t;");
        Calls.fault("delete from t where " + many("[", "", 8) + "1=1" + many("]", "", 8) + ";");
        Calls.fault("delete from t where " + many("[", "", 8) + "^[1=1;");
        Calls.fault("delete from t where " + many("not ", "", 8) + "1=1 and not 1=1;");
        Calls.fault("delete from t where " + many("not ", "", 8) + "^not 1=1;");
        Calls.fault("delete from t where " + many("not ", "", 8) + "1 is not null and 1 not in(1);");
        Calls.fault("delete from t where " + many("not ", "", 8) + "1 in^(1);");
        Calls.fault("insert into t values(" + many("(", "", 7) + "1^;");
        Calls.fault("insert into t values(" + many("(", "", 7) + "^(1);");
        Calls.fault("create table t(a int,check(" + many("[", "", 6) + "^[1=1;");
        Calls.fault("select " + many("-", "", 8) + "1*" + many("-", "", 8) + "1 from t;");
    }

    private static void running() {
        Snapshothall hall = new Snapshothall();
        Calls.type(hall, "begin;commit");
        Calls.refuses("run of a fault", IllegalArgumentException.class, hall::run);
        Calls.due("text behind a fault", hall.type(0x3b, 0, 0, 0, 0), 13);
        Calls.due("run", hall.run(), 2);
        Calls.due("text behind run", hall.clearText(), 0);
        // The session is that of the latest digit; 0 without one, in each script.
        Calls.play(hall, "2:begin;save a;1:begin;begin;", "0", "0", "0", "S");
        Calls.due("session 2", hall.session(2, 1), 1);
        Calls.due("session 1", hall.session(1, 0), 2);
        Calls.play(hall, "begin;2:commit;1:rollback;0:commit;", "0", "0", "0", "0");
        Calls.due("session of a result", hall.result(1, 0), 2);
        Calls.due("run of an empty text", hall.run(), 0);
        Calls.due("results behind it", hall.results(), 0);
    }
}
