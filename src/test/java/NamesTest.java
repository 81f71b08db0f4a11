/** Promise 5 as section 4 tells it: names and types of statements, and where NAMES is told. */
public final class NamesTest {
    public static void main(String[] args) {
        tables();
        refs();
        groups();
        counts();
        types();
        Calls.end("NamesTest");
    }

    /** A hall with a table t(k int, w word), a table u(k int, t int), and a view v(k, name). */
    private static Snapshothall hall() {
        Snapshothall hall = new Snapshothall();
        Calls.play(hall, "create table t(k int,w word,primary(k));create table u(k int,t int,primary(k));"
                + "create view v as select k,w as name from t;create index i on t(w);", "0", "0", "0", "0");
        return hall;
    }

    /** Each statement is refused as NAMES where it has a ^, or it is not, without one. */
    private static void names(String marked) {
        Snapshothall hall = hall();
        Calls.type(hall, marked.replace("^", ""));
        Calls.due("statements of " + marked, hall.run(), 1);
        int place = hall.result(0, 1) == Snapshothall.NAMES ? hall.result(0, 3) : Snapshothall.NONE;
        Calls.due("NAMES of " + marked, place, marked.indexOf('^'));
        Calls.due("number of " + marked, hall.result(0, 1) != Snapshothall.NAMES || hall.result(0, 2) == 0, true);
        Calls.due("errors behind " + marked, hall.errors(), 0);
    }

    private static void tables() {
        names("create table a(k int,primary(k));");
        names("create table ^t(k int,primary(k));");
        names("create table ^v(k int,primary(k));");
        names("create table i(k int,primary(k));");
        names("create table a(k int,^k word,primary(k));");
        names("create table a(k int,primary(^x));");
        names("create table ^a(k int);");
        names("create table ^a(k int,primary(k),primary(k));");
        names("create table a(k int,primary(k),unique(k,^k));");
        names("create table a(k int,primary(k),unique(k,^x));");
        names("create table a(k int,primary(k),refer(k)to t);");
        names("create table a(k int,primary(k),refer(k)to a);");
        names("create table a(k int,refer(k)to a,primary(k));");
        names("create table a(k int,primary(k),refer(^x)to t);");
        names("create table a(k int,primary(k),refer(k)to ^b);");
        names("create table a(k int,primary(k),refer(k)to ^v);");
        names("create table a(k word,primary(k),refer(k)to ^t);");
        names("create table a(k int,w word,primary(k),refer(w)to ^a);");
        names("create table a(k int,primary(k),check(k>1 and a.k<9));");
        names("create table a(k int,primary(k),check(^x>1));");
        names("create table a(k int,primary(k),check(^t.k>1));");
        names("create table a(k int,primary(k),check(exists(^select*from t)));");
        names("create table a(k int,primary(k),check(k in(^select k from t)));");
        names("create table a(k int,primary(k),check(^count(*)>1));");
        names("create table a(k int,primary(k),check(k=^'a'));");
        names("create index j on t(k,w);");
        names("create index ^i on t(k);");
        names("create index j on ^x(k);");
        names("create index j on ^v(k);");
        names("create index j on t(k,^k);");
        names("create index j on t(^t);");
        names("create index t on t(k);");
        names("create view a as select*from t;");
        names("create view ^t as select*from t;");
        names("create view ^v as select*from x;");
        names("create view a as select*from ^a;");
        names("create view a as select ^x from t;");
        names("drop table u;");
        names("drop table ^v;");
        names("drop table ^x;");
        names("drop view v;");
        names("drop view ^t;");
        names("drop index i;");
        names("drop index ^t;");
        names("insert into ^v values(1,'a');");
        names("insert into ^x values(1,'a');");
        names("update ^v set k=1;");
        names("update t set ^x=1;");
        names("update t set k=1,^k=2;");
        names("update t set k=2 where t.k=1;");
        names("update t set k=2 where ^u.k=1;");
        names("update t set k=^v.k;");
        names("delete from ^v;");
        names("delete from t where ^x=1;");
        names("select*from ^x;");
        names("explain select*from ^x;");
        names("rollback to x;");
        names("fetch x 1;");
    }

    private static void refs() {
        names("select k from t;");
        names("select ^k from t,u;");
        names("select t.k,u.k from t,u;");
        names("select t,w from t,u;");
        names("select ^t.x from t;");
        names("select ^x.k from t;");
        names("select ^t.k from t as a;");
        names("select a.k,b.k from t as a,t as b;");
        names("select 1 from t as a,^t as a;");
        names("select ^a.k from t as a,t as a;");
        names("select w from t,^u as t;");
        names("select 1 from t,^t;");
        names("select ^t.k from t,t;");
        names("select ^x from y;");
        names("select 1 from t join u on t.k=u.t;");
        names("select 1 from t join u on t.k=^v.k join v on v.k=1;");
        names("select 1 from t join u on ^k=1;");
        names("select 1 from t,u join v on name='a';");
        names("select 1 from t join u on ^name='a',v;");
        names("select 1 from t join u on exists(select*from v where ^x=1);");
        names("select name from v;");
        names("select ^w from v;");
        names("select v.name from v;");
        names("select 1 from t where exists(select*from u where u.t=t.k);");
        names("select 1 from t where exists(select*from u where k=^w);");
        names("select 1 from t where exists(select*from u where w='a');");
        names("select 1 from t where exists(select*from u where exists(select*from v where t.w=name and u.t=1));");
        names("select 1 from t,v where exists(select*from u as a where a.t=k or a.k=1);");
        names("select 1 from t,v where exists(select t from u as a where a.t=t.k or name=w);");
        names("select 1 from t,v where exists(select name from u where ^v.w='a');");
        // The innermost block that has such a column counts, though one further out fits alone.
        names("select 1 from t where exists(select*from u as a,u as b where ^k=1);");
        names("insert into t values(^k,'a');");
        names("insert into t values(case when exists(select*from u where k=1)then 1 else 2 end,'a');");
        names("insert into t values(case when exists(select*from u where ^w='a')then 1 else 2 end,'a');");
        names("update t set k=case when exists(select*from u where u.t=t.k)then 1 else 2 end;");
        names("select k as a from t where ^a=1;");
        names("create view a as select (k),k+1,t.w from t;");
        Snapshothall hall = hall();
        Calls.play(hall, "create view a as select (k),k+1,t.w,null as n from t;select k,w,n+1 from a;"
                + "select n from a where n=^'x';create view b as select k,k from t;select ^k from b;"
                + "select*from b;create view c as select*from t,u;select w,t,^k from c;"
                + "drop view a;create view d as select t from u where k=1;select d.t from t,d where d.t=t.k;",
                "0", "[]", "N", "0", "N", "[]", "0", "N", "0", "0", "[]");
    }

    private static void groups() {
        names("select k from t group by k;");
        names("select t.k from t group by k;");
        names("select ^k from t group by w;");
        names("select ^k,count(*) from t;");
        names("select count(*),sum(k),min(w) from t having count(*)>1;");
        names("select 1 from t having ^k=1;");
        names("select 1 from t group by k having k=1;");
        names("select 1 from t group by w having ^k=1;");
        names("select ^* from t group by k;");
        names("select ^* from t having 1=1;");
        names("select w from t where k=1 group by w;");
        names("select ^k from t as a,t as b group by a.k;");
        names("select ^b.k from t as a,t as b group by a.k;");
        names("select 1 from t,u group by ^k;");
        names("select 1 from t group by ^x;");
        names("select ^k from t group by x;");
        names("select ^t.k,w from t group by w,x.k;");
        names("select w,w from t group by w,w;");
        names("select case when exists(select*from u where u.k=^t.w)then 1 else 2 end from t group by w;");
        names("select case when exists(select*from u where u.t=^t.k)then 1 else 2 end from t group by w;");
        names("select case when exists(select*from u where u.t=t.k)then 1 else 2 end from t group by k;");
        names("select sum(case when exists(select*from u where u.t=t.k)then 1 else 2 end)from t;");
        names("select count(*),case when exists(select sum(^t.k)from u)then 1 else 2 end from t;");
        names("select 1 from t group by w having exists(select*from u where ^t.k=1);");
        names("select 1 from t where ^count(*)=1;");
        names("select 1 from t join u on ^sum(u.k)=1;");
        names("select sum(k+^count(*))from t;");
        names("select max(^min(k))from t;");
        names("select sum(case when exists(select count(*)from u)then 1 else 2 end)from t;");
        names("insert into t values(^count(*),'a');");
        names("update t set k=^max(k);");
        names("delete from t where k=^max(k);");
        names("delete from t where k in(select max(k)from t);");
        names("delete from t where k in(select k from t where ^max(k)=1);");
        names("select 1 from t where exists(select count(t.k)from u);");
    }

    private static void counts() {
        names("insert into t values(1,'a');");
        names("insert into t values(1^);");
        names("insert into t values(1,'a',^2,3);");
        names("insert into t values(1,'a'),(2,'b',^(3));");
        names("insert into t select*from t;");
        names("insert into t select k ^from t;");
        names("insert into t select k as a ^from t;");
        names("insert into t select k,w,^k+1,2 from t;");
        names("insert into t select ^* from t,u;");
        names("insert into t select distinct k,w from t where k=1;");
        names("insert into t select k,w from t union ^select k from t;");
        names("insert into t select * ^from x;");
        names("select k from t union ^select k,t from u;");
        names("select k from t union select t from u except ^select w from t;");
        names("select k from t union ^select*from x;");
        names("select k from t union ^select w from t;");
        names("select null from t union select w from t union ^select k from t;");
        names("select null from t union select null from t;");
        names("select k from t order by 1;");
        names("select k from t order by ^2;");
        names("select k from t order by 1,^0;");
        names("select*from t order by 2 down,1;");
        names("select*from t order by 2,^3;");
        names("select 1 from t where k in(^select*from t);");
        names("select 1 from t where k in(select k from u);");
        names("select 1 from t where k in(^select k,t from u);");
        names("select 1 from t where exists(select k,t from u);");
    }

    private static void types() {
        names("select ^w+1 from t;");
        names("select 1+^w from t;");
        names("select 1+k*^w from t;");
        names("select 1+2*3-^'a' from t;");
        names("select -^'a' from t;");
        names("select ^'a'%2 from t;");
        names("select ^(w)/2 from t;");
        names("select null+1,-null,null*null from t;");
        names("select k from t where k=^w;");
        names("select k from t where 'a'=^(k+1);");
        names("select k from t where w=null and null<>k and null=null;");
        names("select k from t where w=^('a'+1);");
        names("select k from t where w<'b';");
        names("select k from t where k is null or w is null;");
        names("select k from t where k in(1,null,^'a');");
        names("select k from t where null in(null,'a',^1);");
        names("select k from t where k between null and ^'a';");
        names("select k from t where null between w and ^2;");
        names("select k from t where w between 'a' and 'b';");
        names("select k from t where k in(^select w from t);");
        names("select k from t where k in(select null from t);");
        names("select k from t where null in(select w from t);");
        names("select case when k=1 then 1 else ^'a' end from t;");
        names("select case when k=1 then null else 'a' end from t;");
        names("select case when k=^'a' then 1 else 'a' end from t;");
        names("select coalesce(k,^'a')from t;");
        names("select coalesce(null,'a')from t where k=^coalesce(null,'a');");
        names("select sum(^w)from t;");
        names("select sum(distinct ^w)from t;");
        names("select count(w),min(w),max(w)from t;");
        names("select k from t group by k having k=^min(w);");
        names("select count(w)+1 from t;");
        names("select ^min(w)+1 from t;");
        names("insert into t values(^'a','b');");
        names("insert into t values(1,null),(null,^2);");
        names("insert into t select k,^k from t;");
        names("insert into t select ^* from u;");
        names("insert into t select k,^null from t union select k,t from u;");
        names("insert into t select k,null from t union select k,null from u;");
        names("insert into t select ^w,k from t;");
        names("update t set w='a',k=^'a';");
        names("update t set w=null,k=null;");
        names("update t set k=^w;");
        // An unknown ref fits each type, one that several columns fit has the type of the first.
        names("select ^x+1 from t where x='a';");
        names("select 1 from t,v where ^k=1 and w=k;");
        names("select 'a' from t as a,t as b where 'a'=^k;");
    }
}
