/** The bounds of section 6, and of promises 8 and 9: what is empty, one row, like rows, NULL, orders and limits. */
public final class QueryEdgeTest {
    private static Snapshothall hall;

    public static void main(String[] args) {
        hall = new Snapshothall();
        Calls.done(hall, "create table t(k int,a int,w word,primary(k));create table u(k int,t int,primary(k));"
                + "create table e(k int,a int,primary(k));create table o(k int,primary(k));");
        Calls.done(hall, "insert into t values(3,10,null),(1,10,'b'),(4,20,'ab'),(2,null,'a');"
                + "insert into u values(3,4),(5,null),(2,1),(1,1);insert into o values(1);");
        rowsAreInTheOrderOfTheirKeys();
        rowsOfViewsAreInTheOrderOfTheirAnswer();
        combinationsInTheOrderOfSources();
        sourcesWithoutRows();
        joinsStayIfTrue();
        leftJoinsWithNulls();
        whereStaysIfTrue();
        groupsOfLikeValues();
        groupsWithoutRows();
        groupsAreOrdered();
        havingStaysIfTrue();
        aggregatesOfValuesThatAreNotNull();
        aggregatesOfNone();
        aggregatesOfEachOnce();
        starsAreAllColumns();
        distinctLeavesOutLikeRows();
        unionLeavesOutLikeRows();
        exceptLeavesEachOnce();
        blocksFromTheLeftOn();
        ordersByKeys();
        ordersByLateItems();
        nullsInOrders();
        likeOnesStayInTheirOrder();
        offsetsAndLimits();
        queriesAreAskedWithTheRowsAround();
        isNullAndCellOfRowsThatThereAreNot();
        Calls.end("QueryEdgeTest");
    }

    private static void ask(String query, String want) {
        Calls.play(hall, query + ";", want);
    }

    // "The rows of a table are in the order of their keys (least first)"
    private static void rowsAreInTheOrderOfTheirKeys() {
        ask("select k from t", "[1;2;3;4]");
        ask("select*from e", "[]");
        ask("select*from o", "[1]");
        Snapshothall other = new Snapshothall();
        Calls.done(other, "create table x(k int,primary(k));insert into x values(0),(-1),(999999999),(-999999999),(1);");
        Calls.play(other, "select*from x;update x set k=-k;select*from x;", "[-999999999;-1;0;1;999999999]", "5",
                "[-999999999;-1;0;1;999999999]");
        Calls.play(other, "update x set k=5 where k=-1;select*from x;", "1", "[-999999999;0;1;5;999999999]");
    }

    // "those of a view in the order of its answer"
    private static void rowsOfViewsAreInTheOrderOfTheirAnswer() {
        Calls.done(hall, "create view v as select k,a from t order by 1 down;create view x as select k from v limit 2;");
        ask("select k from v", "[4;3;2;1]");
        ask("select k from x", "[4;3]");
        ask("select v.k,o.k from v,o", "[4,1;3,1;2,1;1,1]");
        ask("select o.k,v.k from o,v", "[1,4;1,3;1,2;1,1]");
        Calls.done(hall, "drop view x;drop view v;");
    }

    // "ordered by the one of the source 0, then by that of the source 1, and so on"
    private static void combinationsInTheOrderOfSources() {
        ask("select t.k,u.k from t,u where t.k<3 and u.k<4", "[1,1;1,2;1,3;2,1;2,2;2,3]");
        ask("select t.k,u.k from u,t where t.k<3 and u.k<4", "[1,1;2,1;1,2;2,2;1,3;2,3]");
        ask("select t.k,u.k,x.k from t,u,t as x where t.k<3 and u.k<3 and x.k>2",
                "[1,1,3;1,1,4;1,2,3;1,2,4;2,1,3;2,1,4;2,2,3;2,2,4]");
        ask("select o.k,t.k from o,t", "[1,1;1,2;1,3;1,4]");
    }

    private static void sourcesWithoutRows() {
        ask("select*from e,t", "[]");
        ask("select*from t,e", "[]");
        ask("select t.k from t join e on 1=1", "[]");
        ask("select t.k from e left join t on 1=1", "[]");
        ask("select e.k from e left join e as x on 1=1", "[]");
        ask("select t.k,e.k,e.a from t left join e on 1=1", "[1,-,-;2,-,-;3,-,-;4,-,-]");
    }

    // "with each row of this source for which the test behind on is TRUE"
    private static void joinsStayIfTrue() {
        ask("select u.k,t.k from u join t on t.k=u.t", "[1,1;2,1;3,4]");
        ask("select u.k,t.k from u join t on not t.k=u.t where u.k=5", "[]");
        ask("select t.k from t join u on 1=2", "[]");
        ask("select t.k from t join u on null=1", "[]");
        ask("select t.k,o.k from t join o on 1=1", "[1,1;2,1;3,1;4,1]");
        ask("select t.k from t join u on u.t=t.k join o on o.k=u.k", "[1]");
    }

    // "with left join, besides, if there is none, with a row of NULLs"
    private static void leftJoinsWithNulls() {
        ask("select u.k,t.k,t.a,t.w from u left join t on t.k=u.t", "[1,1,10,98;2,1,10,98;3,4,20,24930;5,-,-,-]");
        ask("select u.k,t.k from u left join t on 1=2", "[1,-;2,-;3,-;5,-]");
        ask("select u.k,t.k from u left join t on t.a=null where u.k<3", "[1,-;2,-]");
        // The test behind where comes behind it.
        ask("select u.k from u left join t on t.k=u.t where t.k is null", "[5]");
        ask("select u.k,t.k from u left join t on t.k=u.t where t.k=1", "[1,1;2,1]");
        ask("select u.k,t.k from u left join t on t.k=u.t and t.k=4", "[1,-;2,-;3,4;5,-]");
        ask("select u.k,t.k,x.k from u left join t on t.k=u.t left join t as x on x.k=t.k+1 where u.k>2",
                "[3,4,-;5,-,-]");
        ask("select u.k,t.k,o.k from u left join t on t.k=u.t join o on o.k=t.k", "[1,1,1;2,1,1]");
        ask("select u.k,t.k,o.k from u left join t on t.k=u.t,o where u.k>2", "[3,4,1;5,-,1]");
    }

    // "Those stay for which the test behind where is TRUE."
    private static void whereStaysIfTrue() {
        ask("select k from t where a=10", "[1;3]");
        ask("select k from t where not a=10", "[4]");
        ask("select k from t where a=null", "[]");
        ask("select k from t where 1=1", "[1;2;3;4]");
        ask("select k from t where 1=2", "[]");
    }

    // "rows with like values of the refs behind group by are one group (NULL is like NULL)"
    private static void groupsOfLikeValues() {
        ask("select a,count(*)from t group by a", "[-,1;10,2;20,1]");
        ask("select t,count(*)from u group by t", "[-,1;1,2;4,1]");
        Calls.done(hall, "insert into t values(5,null,'z');");
        ask("select a,count(*),min(k),max(k)from t group by a", "[-,2,2,5;10,2,1,3;20,1,4,4]");
        ask("select a,w,count(*)from t group by a,w", "[-,97,1;-,122,1;10,-,1;10,98,1;20,24930,1]");
        ask("select count(*)from t group by a,a,a", "[2;2;1]");
        Calls.done(hall, "delete from t where k=5;");
        // Of three refs each counts.
        Snapshothall other = new Snapshothall();
        Calls.done(other, "create table t(k int,a int,b int,c int,primary(k));insert into t values(1,1,1,2),(2,1,2,1),(3,1,1,1),"
                + "(4,1,1,null),(5,1,1,2),(6,0,2,2),(7,1,2,1),(8,1,1,null);");
        Calls.play(other, "select a,b,c,count(*),min(k)from t group by a,b,c;", "[0,2,2,1,6;1,1,-,2,4;1,1,1,1,3;1,1,2,2,1;1,2,1,2,2]");
        Calls.play(other, "select c,count(*)from t group by c,b,a;", "[-,2;1,1;1,2;2,2;2,1]");
    }

    // "without group by all rows are one, also if there are none"
    private static void groupsWithoutRows() {
        ask("select count(*)from e", "[0]");
        ask("select 1 from e having 1=1", "[1]");
        ask("select 'a'from e having count(*)=0", "[97]");
        ask("select 1 from e having 1=2", "[]");
        ask("select count(*)from e group by k", "[]");
        ask("select count(*)from e group by k having count(*)=0", "[]");
        ask("select count(*)from t where 1=2", "[0]");
        ask("select 1 from t having 1=1", "[1]");
        ask("select count(*)+1,coalesce(max(a),7)from e", "[1,7]");
    }

    // "groups are ordered by these values, the first one first (NULL ahead of all others)"
    private static void groupsAreOrdered() {
        ask("select t,k from u group by t,k", "[-,5;1,1;1,2;4,3]");
        ask("select t,k from u group by k,t", "[1,1;1,2;4,3;-,5]");
        ask("select w from t group by w", "[-;97;24930;98]");
        ask("select a,w from t group by w,a", "[10,-;-,97;20,24930;10,98]");
    }

    // "those stay for which the test behind having is TRUE"
    private static void havingStaysIfTrue() {
        ask("select a from t group by a having count(*)=2", "[10]");
        ask("select a from t group by a having not a=10", "[20]");
        ask("select a from t group by a having max(a)=null", "[]");
        ask("select a from t group by a having a is null", "[-]");
        ask("select count(*)from t having count(*)=4", "[4]");
        ask("select count(*)from t having count(*)<4", "[]");
        ask("select max(k)from t where a=10 group by a having min(k)=1 and count(w)=1", "[3]");
    }

    // "count(*) is the number of rows of the group; count, sum, min and max are over the values that are not NULL"
    private static void aggregatesOfValuesThatAreNotNull() {
        ask("select count(*),count(a),sum(a),min(a),max(a)from t", "[4,3,40,10,20]");
        ask("select count(w),min(w),max(w)from t", "[3,97,98]");
        ask("select count(a+null),count(1),sum(1)from t", "[0,4,4]");
        ask("select sum(k*a),max(-k),min(k%2)from t", "[120,-1,0]");
        ask("select count(k/(k-1))from t", "[3]");
    }

    // "sum, min, max of none is NULL"
    private static void aggregatesOfNone() {
        ask("select count(*),count(k),sum(k),min(k),max(k)from e", "[0,0,-,-,-]");
        ask("select count(distinct k),sum(distinct k),min(distinct k),max(distinct k)from e", "[0,-,-,-]");
        ask("select count(*),count(a),sum(a),min(a),max(a)from t where k=2", "[1,0,-,-,-]");
        ask("select count(null),sum(null),min(null),max(null)from t", "[0,-,-,-]");
    }

    // "(with distinct: each one once)"
    private static void aggregatesOfEachOnce() {
        ask("select count(distinct a),sum(distinct a),min(distinct a),max(distinct a)from t", "[2,30,10,20]");
        ask("select count(distinct w),count(distinct 1),sum(distinct 5)from t", "[3,1,5]");
        ask("select count(distinct k),sum(distinct k)from t", "[4,10]");
        ask("select a,count(distinct a)from t group by a", "[-,0;10,1;20,1]");
    }

    // "* are all columns of all sources, in their order"
    private static void starsAreAllColumns() {
        ask("select*from o", "[1]");
        ask("select*from o,u where u.k=3", "[1,3,4]");
        ask("select*from u,o where u.k=5", "[5,-,1]");
        ask("select*from t,u,o where t.k=4 and u.k=3", "[4,20,24930,3,4,1]");
        ask("select*from u left join e on e.k=u.k where u.k=1", "[1,1,-,-]");
        Calls.run(hall, "select*from e;");
        Calls.due("columns of no rows", hall.result(0, 4), 2);
        // More than ten columns, and up to 18.
        Calls.run(hall, "select*from t,t as x,t as y where t.k=1 and x.k=2 and y.k=4;");
        Calls.due("columns", hall.result(0, 4), 9);
        Calls.due("row", Calls.told(hall, 0), "[1,10,98,2,-,97,4,20,24930]");
        Snapshothall wide = new Snapshothall();
        Calls.done(wide, "create table t(a int,b int,c int,d int,e int,f int,primary(a));insert into t values(1,2,3,4,5,null);"
                + "create view v as select*from t,t as x,t as y;");
        Calls.play(wide, "select*from v,v as w,v as x;", "[" + Calls.many("1,2,3,4,5,-", ",", 9) + "]");
        Calls.due("columns of three views", wide.result(0, 4), 54);
        Calls.due("the last one is NULL", wide.isNull(0, 0, 53), true);
        Calls.due("the one ahead is not", wide.isNull(0, 0, 52), false);
        Calls.refuses("column 54", IndexOutOfBoundsException.class, () -> wide.isNull(0, 0, 54));
        Calls.done(wide, "create view w as select*from v,v as b,v as c;");
        Calls.run(wide, "select*from w,w as x,w as y;");
        Calls.due("columns of views of views", wide.result(0, 4), 162);
        for (int c = 0; c < 162; c++) {
            Calls.due("NULL of column " + c, wide.isNull(0, 0, c), c % 6 == 5);
            Calls.due("cell of column " + c, wide.cell(0, 0, c), c % 6 == 5 ? 0L : c % 6 + 1L);
        }
    }

    // "With distinct, rows that are like an earlier one are left out."
    private static void distinctLeavesOutLikeRows() {
        ask("select distinct a from t", "[10;-;20]");
        ask("select distinct a,k from t", "[10,1;-,2;10,3;20,4]");
        ask("select distinct 1 from t", "[1]");
        ask("select distinct null from t", "[-]");
        ask("select distinct 1 from e", "[]");
        ask("select distinct 0,null from o union select null,0 from o", "[0,-;-,0]");
        ask("select distinct*from o", "[1]");
        ask("select a from t", "[10;-;10;20]");
    }

    // "union: the rows of the one, then those of the other, without those that are like an earlier one"
    private static void unionLeavesOutLikeRows() {
        ask("select a from t union select a from t", "[10;-;20]");
        ask("select 20 from o union select a from t", "[20;10;-]");
        ask("select a from t union select k from e", "[10;-;20]");
        ask("select k from e union select a from t", "[10;-;20]");
        ask("select k from e union select a from e", "[]");
        ask("select null from o union select null from o", "[-]");
        ask("select 'a'from o union select w from t", "[97;98;-;24930]");
    }

    // "except: the rows of the first one without those that are like one of the other, each once"
    private static void exceptLeavesEachOnce() {
        ask("select a from t except select 20 from o", "[10;-]");
        ask("select a from t except select null from o", "[10;20]");
        ask("select a from t except select k from e", "[10;-;20]");
        ask("select a from t except select a from t", "[]");
        ask("select k from e except select a from t", "[]");
        ask("select 1,a from t except select 1,10 from o", "[1,-;1,20]");
    }

    // "(From the left on.)"
    private static void blocksFromTheLeftOn() {
        ask("select k from t except select 1 from o union select 1 from o", "[2;3;4;1]");
        ask("select k from t union select 9 from o except select 1 from o", "[2;3;4;9]");
        ask("select k from t except select k from u except select k from o", "[4]");
        ask("select 1 from o union select 1 from o union select 1 from o", "[1]");
    }

    // "order by: by the values of the item with this number, least first (down: greatest first)"
    private static void ordersByKeys() {
        ask("select k from t order by 1", "[1;2;3;4]");
        ask("select k from t order by 1 down", "[4;3;2;1]");
        ask("select w,k from t order by 2 down", "[24930,4;-,3;97,2;98,1]");
        ask("select a,k from t where a>0 order by 1 down,2 down", "[20,4;10,3;10,1]");
        ask("select a,k from t where a>0 order by 1,2 down", "[10,3;10,1;20,4]");
        ask("select a,k from t where a>0 order by 1 down,2", "[20,4;10,1;10,3]");
        ask("select 1,a,k from t where a>0 order by 1,2,3 down", "[1,10,3;1,10,1;1,20,4]");
        ask("select k from e order by 1", "[]");
        ask("select k from o order by 1 down", "[1]");
        ask("select k from t union select k+3 from t order by 1 down", "[7;6;5;4;3;2;1]");
    }

    /** By items behind the 64th one, as a * can tell. */
    private static void ordersByLateItems() {
        Snapshothall wide = new Snapshothall();
        Calls.done(wide, "create table o(a int,b int,c int,d int,e int,f int,primary(a));insert into o values(1,2,3,4,5,null);"
                + "create table t(k int,a int,primary(k));insert into t values(1,7),(2,null),(3,-5),(4,7);"
                + "create view one as select*from o,o as x,o as y;create view two as select*from one,one as x,one as y;");
        String[][] due = {{"order by 74", "2 3 1 4 "}, {"order by 74 down", "1 4 3 2 "}, {"order by 74 down,73 down", "4 1 3 2 "},
            {"order by 72,74 down limit 2", "1 4 "}, {"order by 64,65,73 down", "4 3 2 1 "}, {"order by 73", "1 2 3 4 "}};
        for (String[] one : due) {
            Calls.run(wide, "select*from two,one,t " + one[0] + ";");
            StringBuilder keys = new StringBuilder();
            for (int row = 0; row < wide.result(0, 2); row++) {
                keys.append(wide.cell(0, row, 72)).append(' ');
                Calls.due("NULL at the end", wide.isNull(0, row, 73), wide.cell(0, row, 72) == 2);
            }
            Calls.due("keys " + one[0], keys.toString(), one[1]);
        }
        Calls.run(wide, "select distinct*from two,one,t union select*from two,one,t;select*from two,one,t except select*from two,"
                + "one,t where t.k<>2;select*from two,one,t order by 75;");
        Calls.due("rows of a union", wide.result(0, 2), 4);
        Calls.due("rows of an except", wide.result(1, 2), 1);
        Calls.due("the row that stays", wide.cell(1, 0, 72), 2L);
        Calls.due("item 75", wide.result(2, 1), Snapshothall.NAMES);
    }

    // "NULL ahead of all others (down: behind them)"
    private static void nullsInOrders() {
        ask("select a,k from t order by 1", "[-,2;10,1;10,3;20,4]");
        ask("select a,k from t order by 1 down", "[20,4;10,1;10,3;-,2]");
        ask("select w from t order by 1", "[-;97;24930;98]");
        ask("select w from t order by 1 down", "[98;24930;97;-]");
        ask("select -(65536*65536*65536*32768)from o union select null from o order by 1",
                "[-;" + Long.MIN_VALUE + "]");
        ask("select -(65536*65536*65536*32768)from o union select null from o order by 1 down",
                "[" + Long.MIN_VALUE + ";-]");
    }

    // "others stay in their order"
    private static void likeOnesStayInTheirOrder() {
        ask("select 7,k from t order by 1", "[7,1;7,2;7,3;7,4]");
        ask("select 7,k from t order by 1 down", "[7,1;7,2;7,3;7,4]");
        ask("select a,k from t order by 1 down", "[20,4;10,1;10,3;-,2]");
        ask("select k%2,k from t order by 1", "[0,2;0,4;1,1;1,3]");
        ask("select k%2,k from t order by 1 down,1", "[1,1;1,3;0,2;0,4]");
    }

    // "Then as many as offset tells are left out, and as many as limit tells stay."
    private static void offsetsAndLimits() {
        ask("select k from t limit 0", "[]");
        ask("select k from t limit 1", "[1]");
        ask("select k from t limit 3", "[1;2;3]");
        ask("select k from t limit 4", "[1;2;3;4]");
        ask("select k from t limit 5", "[1;2;3;4]");
        ask("select k from t limit 999999999 offset 0", "[1;2;3;4]");
        ask("select k from t limit 9 offset 1", "[2;3;4]");
        ask("select k from t limit 2 offset 1", "[2;3]");
        ask("select k from t limit 1 offset 3", "[4]");
        ask("select k from t limit 1 offset 4", "[]");
        ask("select k from t limit 1 offset 5", "[]");
        ask("select k from t limit 999999999 offset 999999999", "[]");
        ask("select k from t limit 0 offset 1", "[]");
        ask("select k from e limit 1", "[]");
        ask("select k from t order by 1 down limit 2 offset 1", "[3;2]");
        ask("select distinct a from t limit 2", "[10;-]");
        ask("select a from t union select 7 from o limit 1 offset 3", "[7]");
    }

    private static void queriesAreAskedWithTheRowsAround() {
        ask("select k from t where exists(select*from u where t=t.k)", "[1;4]");
        ask("select k from t where k in(select u.k from u where u.k=t.k and u.t is not null)", "[1;2;3]");
        ask("select k from t where 2=case when exists(select count(*)from u where u.t=t.k having count(*)=2)then 2 else 0 end",
                "[1]");
        ask("select k from t where k in(select max(x.k)from t as x where x.a=t.a)", "[3;4]");
        ask("select k from u where exists(select*from t where t.k=u.t and exists(select*from o where o.k=t.k and u.k=2))",
                "[2]");
        ask("select t.k from t left join u on exists(select*from o where o.k=u.k and t.k=u.t)where u.k is null", "[2;3;4]");
    }

    // "IndexOutOfBoundsException if there is no such result, row or column"
    private static void isNullAndCellOfRowsThatThereAreNot() {
        Snapshothall other = new Snapshothall();
        Calls.run(other, "create table t(k int,a int,primary(k));insert into t values(1,null),(2,5);select*from t;"
                + "select a from t where k=9;explain select*from t;");
        Calls.due("the first", other.cell(2, 0, 0), 1L);
        Calls.due("the last", other.cell(2, 1, 1), 5L);
        Calls.due("the last", other.isNull(2, 1, 1), false);
        Calls.due("NULL", other.isNull(2, 0, 1), true);
        int[][] wrong = {{-1, 0, 0}, {5, 0, 0}, {2, -1, 0}, {2, 2, 0}, {2, 0, -1}, {2, 0, 2}, {2, 2, 2}, {3, 0, 0}, {0, 0, 0},
            {1, 0, 0}, {4, 0, 0}, {Integer.MIN_VALUE, 0, 0}, {Integer.MAX_VALUE, 0, 0}, {2, Integer.MAX_VALUE, 0},
            {2, Integer.MIN_VALUE, 0}, {2, 0, Integer.MAX_VALUE}, {2, 0, Integer.MIN_VALUE}};
        for (int[] one : wrong) {
            String what = one[0] + ", " + one[1] + ", " + one[2];
            Calls.throwsAlone(other, "cell " + what, IndexOutOfBoundsException.class,
                    () -> other.cell(one[0], one[1], one[2]));
            Calls.throwsAlone(other, "isNull " + what, IndexOutOfBoundsException.class,
                    () -> other.isNull(one[0], one[1], one[2]));
        }
    }
}
