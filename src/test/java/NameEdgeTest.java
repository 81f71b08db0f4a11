/** The bounds of section 4, sentence by sentence: which token NAMES is told at, and what is let next to it. */
public final class NameEdgeTest {
    public static void main(String[] args) {
        theFirstTokenByItsPlace();
        namesThatThereAreNot();
        viewsAreNotChangedNorIndexed();
        namesThatThereAreAlready();
        columnsThatThereAreNot();
        columnsTwiceInOneList();
        onePrimary();
        refersToAKey();
        sourcesWithTheSameName();
        refsOfTheInnermostBlock();
        refsBehindOn();
        refsOfGroupedBlocks();
        aggregatesWhereNoneCanStand();
        refsInTuples();
        queriesInChecks();
        starsInGroupedBlocks();
        numbersOfValues();
        numbersOfItems();
        blocksOfOneQuery();
        keysAreNumbersOfItems();
        queriesBehindIn();
        sumsWantInts();
        bothSidesHaveOneType();
        valuesPutInColumns();
        nullFitsEachType();
        columnsWithoutAType();
        starsHaveNoItemsOfUnknownSources();
        ambiguousAndUnknownRefs();
        columnsOfViews();
        whatIsAroundAQuery();
        statementsWithoutNames();
        Calls.end("NameEdgeTest");
    }

    /** A hall with t(k int, w word), u(k int, t int), v(k, name) of t, and an index i on t. */
    private static Snapshothall hall() {
        Snapshothall hall = new Snapshothall();
        Calls.done(hall, "create table t(k int,w word,primary(k));create table u(k int,t int,primary(k));"
                + "create view v as select k,w as name from t;create index i on t(w);insert into t values(1,'a');"
                + "insert into u values(1,1);");
        return hall;
    }

    /** A statement is refused as NAMES where it has a ^, and changes nothing; or it is not, without one. */
    private static void names(String marked) {
        Snapshothall hall = hall();
        if (marked.indexOf('^') >= 0) {
            Calls.leaves(hall, marked, "N");
            return;
        }
        Calls.run(hall, marked);
        Calls.due("NAMES of " + marked, hall.result(0, 1) == Snapshothall.NAMES, false);
    }

    // "NAMES is told at the first token, by its place, of which one of these is so"
    private static void theFirstTokenByItsPlace() {
        names("select ^x,y from z;");
        names("select k,^y from t,z;");
        names("select k from t,^z where x=1;");
        names("select k from t where ^x=1 and y=2;");
        names("select k from t where ^x=1 order by 9;");
        names("select k from t where k=1 order by ^9,8;");
        names("create table ^t(k int,k int,primary(x));");
        names("create table ^a(k int,k int);");
        names("create table a(k int,^k int,primary(x));");
        names("create table a(k int,primary(^x),refer(y)to z);");
        names("create table a(k int,primary(k),refer(^y)to z);");
        names("create table a(k int,primary(k),refer(k)to ^z,check(x=1));");
        names("create index ^i on x(y);");
        names("create index j on ^x(y);");
        names("create view ^t as select x from y;");
        names("insert into ^x values(y,z);");
        names("insert into t values(^y,z,1);");
        names("insert into t values(1^),(x,1,2);");
        names("update ^x set y=z;");
        names("update t set ^y=z;");
        names("update t set k=^z,y=1;");
        names("update t set k=^'a',w=1;");
        names("delete from ^x where y=1;");
        // What is told at an earlier token wins, in whatever order it would be looked for.
        names("select k from t where k in(^select*from u where x=1);");
        names("select 1 from t union ^select 'a' from x;");
        names("select k from t union ^select w,x from t;");
        names("insert into t select ^w,x from t;");
        names("insert into t select ^x from t;");
        names("select 1+^'a' from t,t;");
        names("select k from t where w=^(1+'a');");
    }

    // "a table, view, index or source's name that there is not"
    private static void namesThatThereAreNot() {
        names("drop table ^x;");
        names("drop table ^i;");
        names("drop table t;");
        names("drop view ^x;");
        names("drop view ^t;");
        names("drop view v;");
        names("drop index ^x;");
        names("drop index ^t;");
        names("drop index i;");
        names("create index j on ^i(k);");
        names("insert into ^i values(1);");
        names("update ^x set k=1;");
        names("delete from ^x;");
        names("select 1 from ^x;");
        names("select 1 from ^i;");
        names("select 1 from t,^x;");
        names("select 1 from ^x as t;");
        names("select 1 from t as u,u as t;");
        names("select 1 from t where exists(select*from ^x);");
        names("select 1 from t where 1 in(select 1 from ^x);");
        names("select 1 from t left join ^x on 1=1;");
        names("open c for select 1 from ^x;");
        names("explain select 1 from ^x;");
        names("create view a as select 1 from ^a;");
        names("insert into t select 1,'a'from ^x;");
        Snapshothall hall = hall();
        Calls.play(hall, "drop index i;drop index ^i;drop view v;select*from ^v;drop table u;select*from ^u;"
                + "insert into ^u values(1,1);", "0", "N", "0", "N", "0", "N", "N");
    }

    // "(a view cannot be changed by insert, update, delete; nor be indexed)"
    private static void viewsAreNotChangedNorIndexed() {
        names("insert into ^v values(1,'a');");
        names("insert into ^v select*from t;");
        names("update ^v set k=1;");
        names("delete from ^v;");
        names("create index j on ^v(k);");
        names("drop table ^v;");
        names("create table a(k int,primary(k),refer(k)to ^v);");
        names("select*from v;");
        names("insert into u select 9,k from v;");
        names("delete from t where k in(select k from v);");
    }

    // "a name for a table, view or index that there is already"
    private static void namesThatThereAreAlready() {
        names("create table ^t(k int,primary(k));");
        names("create table ^v(k int,primary(k));");
        names("create table i(k int,primary(k));");
        names("create table x(k int,primary(k));");
        names("create view ^t as select 1 from t;");
        names("create view ^v as select 1 from t;");
        names("create view i as select 1 from t;");
        names("create view x as select 1 from t;");
        names("create index ^i on u(k);");
        names("create index ^i on t(w);");
        names("create index t on t(k);");
        names("create index v on t(k);");
        names("create index x on t(k);");
    }

    // "a column that there is not"
    private static void columnsThatThereAreNot() {
        names("create table a(k int,primary(^x));");
        names("create table a(k int,primary(^a));");
        names("create table a(k int,primary(k),unique(^x));");
        names("create table a(k int,primary(k),unique(k,^x));");
        names("create table a(k int,primary(k),refer(^x)to t);");
        names("create table a(k int,primary(k),check(^x=1));");
        names("create index j on t(^x);");
        names("create index j on t(k,^x);");
        names("create index j on t(^t);");
        names("update t set ^x=1;");
        names("update t set k=1,^x=1;");
        names("update t set ^t=1;");
        names("select ^x from t;");
        names("select ^t.x from t;");
    }

    // "or is twice in one list (of columns made, rules, sets, an index; not of group by)"
    private static void columnsTwiceInOneList() {
        names("create table a(k int,^k int,primary(k));");
        names("create table a(k int,b int,^k word,b int,primary(k));");
        names("create table a(k int,primary(k),unique(k,^k));");
        names("create table a(k int,b int,primary(k),unique(k,b,^k,b));");
        names("create table a(k int,b int,primary(k),unique(k,b),unique(k,b));");
        names("create index j on t(k,^k);");
        names("create index j on t(k,w,^w);");
        names("create index j on t(w,k);");
        names("update t set k=1,^k=1;");
        names("update t set k=1,w='a',^w='b',k=2;");
        names("update t set k=1,w='a';");
        names("select k from t group by k,k,k;");
        names("select k from t order by 1,1,1;");
        names("select k,k from t;");
    }

    // "a table without one primary, or with two (at its name)"
    private static void onePrimary() {
        names("create table ^a(k int);");
        names("create table ^a(k int,unique(k));");
        names("create table ^a(k int,refer(k)to t,check(k=1));");
        names("create table a(k int,primary(k));");
        names("create table a(k int,unique(k),check(k=1),primary(k));");
        names("create table ^a(k int,primary(k),primary(k));");
        names("create table ^a(k int,b int,primary(k),unique(k),primary(b));");
        names("create table ^a(k int,primary(k),primary(k),primary(k));");
    }

    // "a rule refer to a table that is neither there nor the one made, or whose key has another type"
    private static void refersToAKey() {
        names("create table a(k int,primary(k),refer(k)to t);");
        names("create table a(k int,primary(k),refer(k)to a);");
        names("create table a(k int,refer(k)to a,primary(k));");
        names("create table a(k int,w word,primary(w),refer(w)to a);");
        names("create table a(k int,w word,primary(w),refer(k)to ^a);");
        names("create table a(k int,w word,refer(k)to ^a,primary(w));");
        names("create table a(k word,primary(k),refer(k)to ^t);");
        names("create table a(k int,w word,primary(k),refer(w)to ^t);");
        names("create table a(k int,primary(k),refer(k)to ^x);");
        names("create table a(k int,primary(k),refer(k)to ^i);");
    }

    // "two sources of a block with the same name (at the first token of the second one ...)"
    private static void sourcesWithTheSameName() {
        names("select 1 from t,^t;");
        names("select 1 from t,u,^t;");
        names("select 1 from t,u,^u;");
        names("select 1 from t,^t,t;");
        names("select 1 from t,^u as t;");
        names("select 1 from u as t,^t;");
        names("select 1 from t as a,^u as a;");
        names("select 1 from t as a,u as b,^v as b;");
        names("select 1 from t join ^t on 1=1;");
        names("select 1 from t left join ^t on 1=1;");
        names("select 1 from t,t as a;");
        names("select 1 from t as a,t;");
        names("select 1 from t as a,t as b,t as c;");
        names("select 1 from t as u,u as t;");
        // Blocks of one query, and those within, have names of their own.
        names("select 1 from t union select 1 from t;");
        names("select 1 from t where exists(select 1 from t);");
    }

    // "a ref that no column, or more than one, of the sources of the innermost block that has such a column fits"
    private static void refsOfTheInnermostBlock() {
        names("select w from t,u;");
        names("select ^k from t,u;");
        names("select t.k,u.k from t,u;");
        names("select ^u.w from t,u;");
        names("select ^t.t from t,u;");
        names("select u.t,t from t,u;");
        names("select ^t.k from t as a;");
        names("select a.k from t as a;");
        names("select ^v.w from v;");
        names("select v.name from v;");
        names("select 1 from t where exists(select 1 from u where k=1);");
        names("select 1 from t,v where exists(select 1 from u where k=1);");
        names("select 1 from u where exists(select 1 from t,v where ^k=1);");
        names("select 1 from t,v where exists(select 1 from u where name=w);");
        names("select 1 from t,v as x where exists(select t from u where w='a'and name='b');");
        names("select 1 from t as a,t as b where exists(select 1 from u where ^w='a');");
        names("select 1 from t where exists(select 1 from u where exists(select 1 from u as x where w='a'and ^name='a'));");
        names("select 1 from t where exists(select 1 from u)and ^u.k=1;");
        names("select k as x from t where ^x=1;");
        names("select k as x from t order by 1;");
        names("select count(*)as x from t group by ^x;");
    }

    // "(in a test behind on, of the sources up to its own one)"
    private static void refsBehindOn() {
        names("select 1 from t join u on u.k=t.k,v;");
        names("select 1 from t join u on ^v.k=t.k,v;");
        names("select 1 from t join u on w='a',v;");
        names("select 1 from t join u on ^name='a',v;");
        names("select 1 from t,u join v on w='a'and t=1 and name='b';");
        names("select 1 from t left join u on ^v.k=1 left join v on t.k=u.k;");
        names("select 1 from t left join u on 1=1 left join v on t.k=u.k and v.k=1;");
        // With the sources up to its own one, a ref may fit that would not with all.
        names("select 1 from u join t on t=1 and w='b',t as a;");
        names("select 1 from u join t on w='b',t as a where ^w='b';");
        names("select 1 from t join u on exists(select 1 from t as x where u.k=x.k),v;");
        names("select 1 from t join u on exists(select 1 from t as x where ^v.k=x.k),v;");
        names("select 1 from u where exists(select 1 from t as a join t as b on t=1);");
        // A ref that the sources so far do not have can be one of the block around.
        names("select 1 from v where exists(select 1 from t as a join t as b on name='a',v as c);");
        names("select 1 from v where exists(select 1 from t as a join t as b on ^k=1,v as c);");
    }

    // "a ref to a column of a grouped block's own sources that is not within an aggregate of that block, ..."
    private static void refsOfGroupedBlocks() {
        names("select w from t group by w;");
        names("select ^k from t group by w;");
        names("select k,w from t group by w,k;");
        names("select w,^k from t group by w;");
        names("select w,min(k) from t group by w;");
        names("select w,min(k)+^k from t group by w;");
        names("select ^k from t having 1=1;");
        names("select ^k,count(*)from t;");
        names("select count(*),^k from t;");
        names("select w from t group by w having w='a'and min(k)=1;");
        names("select w from t group by w having ^k=1;");
        names("select t.w from t group by w;");
        names("select w from t group by t.w;");
        names("select ^a.w from t as a,t as b group by b.w;");
        // Behind where, on and group by any column can be told.
        names("select w from t where k=1 group by w;");
        names("select t.w from t join u on u.k=t.k group by t.w;");
        // "also if a query there tells it from its block around"
        names("select case when exists(select 1 from u where u.k=^t.k)then 1 else 2 end from t group by w;");
        names("select case when exists(select 1 from u where 'a'=w)then 1 else 2 end from t group by w;");
        names("select w from t group by w having exists(select 1 from u where u.k=^t.k);");
        // "an aggregate round it within the query does not count, one of that block round the query does"
        names("select case when exists(select max(^t.k)from u)then 1 else 2 end from t group by w;");
        names("select case when exists(select max(u.k)from u)then 1 else 2 end from t group by w;");
        names("select max(case when exists(select 1 from u where u.k=t.k)then 1 else 2 end)from t group by w;");
        names("select max(case when exists(select ^u.k,count(*)from u)then 1 else 2 end)from t group by w;");
        // The columns of a block around are none of its own sources.
        names("select 1 from t where exists(select t.k,count(*)from u);");
        names("select 1 from t where exists(select w from u group by u.k);");
    }

    // "an aggregate behind where, on, in a check, in a tuple, in set, or within another aggregate of the same block"
    private static void aggregatesWhereNoneCanStand() {
        names("select 1 from t where ^count(*)=1;");
        names("select 1 from t where k=^max(k);");
        names("select 1 from t having count(*)=1;");
        names("select max(k)from t;");
        names("select k from t group by k order by 1;");
        names("select 1 from t join u on ^count(*)=1;");
        names("select 1 from t left join u on u.k=^min(t.k);");
        names("create table a(k int,primary(k),check(^count(*)=1));");
        Calls.play(new Snapshothall(), "create table a(k int,primary(k),check(^count(*)=1));", "N");
        Calls.play(new Snapshothall(), "insert into ^t values(count(*));", "N");
        names("create table a(k int,primary(k),check(k=^max(k)));");
        names("insert into t values(^count(*),'a');");
        names("insert into t values(^max(1),'a');");
        names("update t set k=^max(k);");
        names("update t set k=1 where ^count(*)=1;");
        names("delete from t where k=^max(k);");
        names("select max(^min(k))from t;");
        names("select max(1+^count(*))from t;");
        names("select sum(case when ^max(k)=1 then 1 else 2 end)from t;");
        names("select max(k)+min(k)from t;");
        names("select sum(case when exists(select max(k)from u)then 1 else 2 end)from t;");
        names("select sum(case when exists(select 1 from u where ^max(t.k)=1)then 1 else 2 end)from t;");
        names("delete from t where exists(select count(*)from u);");
        names("insert into t values(case when exists(select count(*)from u)then 5 else 6 end,'a');");
        names("select 1 from t group by k having exists(select 1 from u group by t having max(u.k)=1);");
    }

    // "a ref in a tuple (but those of sources of a query in it)"
    private static void refsInTuples() {
        names("insert into t values(^k,'a');");
        names("insert into t values(^t.k,'a');");
        names("insert into t values(7,^w);");
        names("insert into t values(1+^x,'a');");
        names("insert into t values(case when exists(select k from u where t=1)then 7 else 8 end,'b');");
        names("insert into t values(case when exists(select k from u where ^w='a')then 7 else 8 end,'b');");
        names("insert into t values(case when ^k in(select k from u)then 7 else 8 end,'b');");
    }

    // "a query in a check"
    private static void queriesInChecks() {
        names("create table a(k int,primary(k),check(exists(^select 1 from t)));");
        names("create table a(k int,primary(k),check(k in(^select k from t)));");
        names("create table a(k int,primary(k),check(not[k=1 or k in(^select x from y)]));");
        names("create table a(k int,primary(k),check(k in(1,2)));");
    }

    // "* in a grouped block"
    private static void starsInGroupedBlocks() {
        names("select ^*from t group by k,w;");
        names("select ^*from t having 1=1;");
        names("select distinct ^*from t group by k;");
        names("select*from t;");
        names("select*from t where exists(select count(*)from u);");
        names("select 1 from t where exists(select ^*from u having 1=1);");
    }

    // "the number of values of a tuple ... that is not that of the columns (at the first one too many, ... or at the
    // token behind the last one"
    private static void numbersOfValues() {
        names("insert into t values(7,'b');");
        names("insert into t values(7^);");
        names("insert into t values(7+1 ^);");
        names("insert into t values(7,'b',^1);");
        names("insert into t values(7,'b',^1+1,2);");
        names("insert into t values(7,'b'),(8^);");
        names("insert into t values(7,'b'),(8,'c',^(9));");
        names("insert into t values(7,'b'),(8,'c');");
        names("insert into t values(^'a');");
    }

    // "or of items of a query ... a * if it tells too many, ... of a query by its first block)"
    private static void numbersOfItems() {
        names("insert into t select 7,'b'from u;");
        names("insert into t select 7 ^from u;");
        names("insert into t select 7 as k ^from u;");
        names("insert into t select 7,'b',^1 from u;");
        names("insert into t select 7,'b',^1,2 from u;");
        names("insert into t select k+1,w from t;");
        names("insert into t select*from t;");
        names("insert into t select ^*from t,u;");
        names("insert into t select * ^from x;");
        names("create table a(k int,primary(k));");
        names("insert into t select 7 ^from u union select 7,'b'from u;");
        names("insert into t select 7,'b'from u union ^select 7 from u;");
        Snapshothall hall = hall();
        Calls.play(hall, "create table a(k int,b int,c int,primary(k));insert into a select * ^from u;insert into a "
                + "select ^* from u,u as x;insert into a select k,t,^'c'from u;", "0", "N", "N", "N");
    }

    // "blocks of one query with unlike numbers of items, or unlike types of these (at the second block's select)"
    private static void blocksOfOneQuery() {
        names("select k from t union select k from u;");
        names("select k from t union ^select k,t from u;");
        names("select k,t from u except ^select k from u;");
        names("select k from t union select k from u except ^select k,t from u;");
        names("select k from t union ^select k,t from u except select k,t from u;");
        names("select*from t union ^select*from u;");
        names("select*from t union select*from v;");
        names("select*from t union ^select*from t,u;");
        names("select k,w from t union select*from t except ^select w,k from t;");
        names("select k from t union ^select w from t;");
        names("select k from t except select k from u union ^select w from t;");
        names("select null from t except select k from u union ^select w from t;");
        names("select k from t except select null from u union ^select w from t;");
        names("select null from t union select null from t union select w from t;");
        names("select 1 from t where exists(select k from t union ^select w from t);");
    }

    // "a key that is no number of an item (1 is the first one)"
    private static void keysAreNumbersOfItems() {
        names("select k,w from t order by ^0;");
        names("select k,w from t order by 1;");
        names("select k,w from t order by 2 down;");
        names("select k,w from t order by ^3;");
        names("select k,w from t order by 2,1,^3 down;");
        names("select k,w from t order by 1,^0,3;");
        names("select k,w from t order by ^999999999;");
        names("select*from t order by 2;");
        names("select*from t order by ^3;");
        names("select*from t,u order by 4;");
        names("select*from t,u order by ^5;");
        names("select 1 from t where exists(select k from t order by ^2);");
    }

    // "a query behind in with more than one item (at its select)"
    private static void queriesBehindIn() {
        names("select 1 from t where k in(select k from u);");
        names("select 1 from t where k in(^select k,t from u);");
        names("select 1 from t where k in(^select*from u);");
        names("select 1 from t where k not in(^select k,k,k from u);");
        names("select 1 from t where k in(select count(*)from u);");
        names("select 1 from t where k in(^select w from t);");
        names("select 1 from t where w in(select name from v);");
        names("select 1 from t where w in(^select null,null from v);");
        names("select 1 from t where w in(select null from v);");
        names("select 1 from t where k in(select null from t union select k from u);");
        names("select 1 from t where k in(^select null from t union select w from t);");
        names("select 1 from t where exists(select k,t from u);");
        Snapshothall hall = hall();
        Calls.play(hall, "create table o(o int,primary(o));select k from t where k in(select*from o);"
                + "select k from t where w in(^select*from o);", "0", "[]", "N");
    }

    // "+ - * / % and the minus want int"; "sum wants int" (at the first token of the part)
    private static void sumsWantInts() {
        for (String sign : new String[] {"+", "-", "*", "/", "%"}) {
            names("select k" + sign + "1 from t;");
            names("select 1" + sign + "^w from t;");
            names("select ^w" + sign + "1 from t;");
            names("select ^'a'" + sign + "'b'from t;");
            names("select ^w" + sign + "null from t;");
            names("select null" + sign + "^w from t;");
            names("select null" + sign + "null from t;");
            names("select 1" + sign + "1" + sign + "^'a'from t;");
            names("select 1" + sign + "^('a')from t;");
        }
        names("select -k,-null from t;");
        names("select -^w from t;");
        names("select - -^'a'from t;");
        names("select -(^'a'+1)from t;");
        names("select 1-^case when 1=1 then 'a' else 'b' end from t;");
        names("select 1-^coalesce(null,'a')from t;");
        names("select 1-^min(w)from t;");
        names("select 1 from t having sum(k)=^'a';");
        names("select 1 from t having 'a'=^sum(k);");
        names("select 1 from t having sum(k)=1 and sum(null)=1 and count(w)=1 and max(w)='a'and min(null)='a';");
        names("select 1 from t having count(null)=^'a';");
        names("insert into t select 5,^sum(k)from t;");
        names("insert into t select 5,max(w)from t;");
        names("select 1-count(w)from t;");
        names("select sum(k),sum(null)from t;");
        names("select sum(^w)from t;");
        names("select sum(distinct ^'a')from t;");
        names("select sum(^(w))from t;");
        names("select min(w),max(w),count(w)from t;");
        names("select 1 from t where 1=1+^w;");
    }

    // "both sides of a sign, of in and between, both branches of case, both parts of coalesce the same type"
    private static void bothSidesHaveOneType() {
        for (String sign : new String[] {"=", "<", "<=", ">", ">=", "<>"}) {
            names("select 1 from t where k" + sign + "1;");
            names("select 1 from t where w" + sign + "'b';");
            names("select 1 from t where k" + sign + "^w;");
            names("select 1 from t where w" + sign + "^(k);");
            names("select 1 from t where null" + sign + "w;");
            names("select 1 from t where k" + sign + "null;");
        }
        names("select 1 from t where k in(1,2,null,3);");
        names("select 1 from t where k in(1,^'a',2,'b');");
        names("select 1 from t where null in(null,1,null,^'a');");
        names("select 1 from t where w not in('a',^k);");
        names("select 1 from t where k between 1 and 2;");
        names("select 1 from t where k between ^'a' and 'b';");
        names("select 1 from t where k between 1 and ^'b';");
        names("select 1 from t where null between 'a' and ^1;");
        names("select 1 from t where w between null and null;");
        names("select case when 1=1 then k else 2 end from t;");
        names("select case when 1=1 then k else ^w end from t;");
        names("select case when 1=1 then null else w end from t;");
        names("select case when k=^w then 1 else 2 end from t;");
        names("select coalesce(k,1),coalesce(null,w),coalesce(w,null)from t;");
        names("select coalesce(k,^'a')from t;");
        names("select 1 from t where k is null or w is not null;");
        names("select 1 from t where coalesce(null,w)=^coalesce(1,null);");
    }

    // "a value put in a column the type of the column"
    private static void valuesPutInColumns() {
        names("insert into t values(^'b','b');");
        names("insert into t values(7,^8);");
        names("insert into t values(7,'b'),(8,^(9));");
        names("insert into t values(null,null);");
        names("insert into t select k+6,^k from t;");
        names("insert into t select ^w,w from t;");
        names("insert into t select ^*from u;");
        names("insert into u select ^*from t;");
        names("insert into t select*from v;");
        names("update t set k=^w;");
        names("update t set w=^k;");
        names("update t set w=null,k=5;");
        names("update t set w='c',k=^'b'where k=9;");
    }

    // "null fits each type: a sum all of whose values are null has none"
    private static void nullFitsEachType() {
        names("insert into t values(7,null);");
        names("insert into t values(7,case when 1=1 then null else null end);");
        names("insert into t values(7,coalesce(null,null));");
        names("insert into t values(7,(null));");
        names("insert into t values(7,^case when 1=1 then null else 1 end);");
        names("insert into t values(7,^coalesce(null,1));");
        names("insert into t values(7,^null+1);");
        names("insert into t values(7,null+null);");
        names("insert into t values(7,-null);");
        names("select 1 from t where null='a'and null=1;");
        names("select 1 from t where null+1=^'a';");
        names("select w from t union select min(null)from t;");
    }

    // "a column of an answer of which all items have none, in all blocks, fits each type, too (as a column of a view it
    // is an int), otherwise it has the type of the first one that has one"
    private static void columnsWithoutAType() {
        names("insert into t select k+7,null from t;");
        names("insert into t select k+7,null from t union select k+8,null from t;");
        names("insert into t select k+7,null from t union select k+8,w from t;");
        names("insert into t select k+7,^null from t union select k+8,k from t;");
        names("select 1 from t where w in(select null from t)and k in(select null from t);");
        Snapshothall hall = hall();
        Calls.play(hall, "create view a as select null as n,null as m from t;create view b as select null as n from t union "
                + "select w from t;select n+1 from a;select 1 from a where n=^'x';select n from b where n='x';"
                + "select ^n+1 from b;insert into t select k+7,^m from t,a;insert into t select k+7,n from t,b where "
                + "n is not null;", "0", "0", "[-]", "N", "[]", "N", "N", "1");
    }

    // "a * has no items of a source that there is not"; "of a *, at it"
    private static void starsHaveNoItemsOfUnknownSources() {
        names("insert into t select * ^from x;");
        names("insert into t select*from t,^x;");
        names("insert into u select ^*from t,x;");
        names("insert into u select ^*from x,t;");
        names("insert into u select*from ^x,u;");
        names("insert into t select*from ^x,t;");
        names("select k from t union ^select*from x;");
        names("select*from t,^x order by 2;");
        names("select*from t,^x order by 3;");
        names("select 1 from t where k in(select*from ^x);");
        names("select 1 from t where k in(^select*from u,x);");
        names("select 1 from t where 1 in(select 1 from ^x);");
        names("insert into t select ^*from u;");
    }

    // "a ref that more than one column fits has the type of the first of them, and behind group by tells that one, one
    // that none fits fits each type"
    private static void ambiguousAndUnknownRefs() {
        Snapshothall hall = new Snapshothall();
        Calls.done(hall, "create table a(k int,x int,primary(k));create table b(k int,x word,primary(k));");
        Calls.play(hall, "select 'q'from a,b where 'w'=^x and x=1;select 1 from a,b where 1=^x and 2=x;"
                + "select 1+^x from b,a;select ^x+1 from a,b;select ^y+1 from a where y='a';", "N", "N", "N", "N", "N");
        // Of types only what stands ahead tells more: in b, a the first x is a word, which + does not want.
        Calls.play(hall, "select case when 1=1 then ^x else 'a' end from a,b;select coalesce('a',^x)from a,b;"
                + "select coalesce(1,^x)from a,b;select a.x from a,b group by ^x;select ^b.x from a,b group by x;",
                "N", "N", "N", "N", "N");
        Calls.play(hall, "select 'q'from a union ^select x from a,b;select 1 from a union select ^x from a,b;select 1 from a union "
                + "^select x from b,a;select 1 from a where 'q'=^(x+1);select 1 from a,b where 'q'=^(x);"
                + "select 1 from a,b where 1=(^x);select 1 from a where x in(select ^k from a,b);", "N", "N", "N", "N", "N", "N",
                "N");
        Calls.play(hall, "select 'q'from a union select ^y from a;select 1 from a union select ^y from a;select 1 from a where "
                + "'q'=(^y);select 1 from a where 1=(^y);select 1 from a where 1 in(select ^y from b);select 1 from a where 'q'in("
                + "select ^y from b);insert into a select 1,(^y)from a;insert into b select 1,(^y)from a;", "N", "N", "N", "N", "N",
                "N", "N", "N");
        Calls.play(hall, "select ^k from a group by y;select count(*)from a group by ^y;select k from a group by k,^y;",
                "N", "N", "N");
    }

    // "an item that is a ref (in brackets, too), or has as, has the name that this tells; others have none"
    private static void columnsOfViews() {
        Snapshothall hall = hall();
        Calls.done(hall, "create view a as select k,((w)),t.k+0,k as j,(k)as h from t;");
        Calls.play(hall, "select k,w,j,h from a;select a.w from a;select ^x from a;select*from a;",
                "[1,97,1,1]", "[97]", "N", "[1,97,1,1,1]");
        Calls.play(hall, "create view b as select k,k from t;select*from b;select ^k from b;select ^b.k from b;",
                "0", "[1,1]", "N", "N");
        Calls.play(hall, "create view c as select k as z from t union select t from u;select z from c;select ^k from c;"
                + "select ^t from c;", "0", "[1]", "N", "N");
        Calls.play(hall, "drop view c;create view d as select*from t,u;", "0", "0");
        Calls.play(hall, "select w,t from d;select ^k from d;select*from d;", "[97,1]", "N", "[1,97,1,1]");
    }

    // "A ref within a query behind in or exists, or within a view, can tell a source of the block around it, if none of
    // its own has it (a view: of none but its own)."
    private static void whatIsAroundAQuery() {
        names("select 1 from t where exists(select 1 from u where w='a');");
        names("select 1 from t where k in(select t from u where t.k=u.k);");
        names("update t set k=1 where exists(select 1 from u where t.k=u.t);");
        names("update t set k=case when w in(select w from u)then k else k end;");
        names("delete from t where exists(select 1 from u where w='a'and exists(select 1 from v where w=name and t=1));");
        names("delete from u where exists(select 1 from t where ^name='a');");
        names("insert into t select k+9,w from t where exists(select 1 from u where w='a');");
        names("create view a as select 1 from u where ^w='a';");
        names("create table a(k int,primary(k),check(^t.k=1));");
        names("create table a(k int,primary(k),check(a.k=1));");
        names("update t set k=1 where ^u.k=1;");
        names("update t set k=t.k where t.w='a';");
        names("delete from t where t.k=1 and ^v.k=1;");
    }

    private static void statementsWithoutNames() {
        for (String one : new String[] {"commit;", "rollback;", "rollback to x;", "save x;", "fetch x 1;", "close x;",
            "vacuum;", "analyze;", "begin;", "open x for select k from t;"}) {
            names(one);
        }
    }
}
