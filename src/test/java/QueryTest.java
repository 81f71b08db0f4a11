/** Promise 5 as sections 5 and 6 tell it: tests, sums, and the rows of queries in their order. */
public final class QueryTest {
    private static Snapshothall hall;

    public static void main(String[] args) {
        hall = new Snapshothall();
        Calls.play(hall, "create table t(k int,a int,w word,primary(k));create table u(k int,t int,primary(k));"
                + "insert into t values(3,10,null),(1,10,'b'),(4,20,'ab'),(2,null,'a');"
                + "insert into u values(3,4),(5,null),(2,1),(1,1);", "0", "0", "4", "4");
        sources();
        groups();
        unions();
        orders();
        tests();
        sums();
        views();
        words();
        Calls.end("QueryTest");
    }

    private static void ask(String query, String want) {
        Calls.play(hall, query + ";", want);
    }

    private static void sources() {
        ask("select*from t", "[1,10,98;2,-,97;3,10,-;4,20,24930]");
        ask("select w,k from t where k>1", "[97,2;-,3;24930,4]");
        ask("select*from u,t where u.t=t.k", "[1,1,1,10,98;2,1,1,10,98;3,4,4,20,24930]");
        ask("select t.k,u.k from t join u on u.t=t.k", "[1,1;1,2;4,3]");
        ask("select t.k,u.k from t left join u on u.t=t.k", "[1,1;1,2;2,-;3,-;4,3]");
        ask("select t.k from t left join u on u.t=t.k where u.k is null", "[2;3]");
        ask("select t.k,u.k from t left join u on u.t=t.k and u.k=2", "[1,2;2,-;3,-;4,-]");
        ask("select t.k,u.k,x.k from t left join u on u.t=t.k join u as x on x.k=t.k",
                "[1,1,1;1,2,1;2,-,2;3,-,3]");
        ask("select t.k,u.k,x.k from t left join u on u.t=t.k left join u as x on x.k=u.k+1 where t.k<>3",
                "[1,1,2;1,2,3;2,-,-;4,3,-]");
        ask("select x.k,y.k from t as x,t as y where x.k<y.k and x.k<3", "[1,2;1,3;1,4;2,3;2,4]");
        ask("select t.k,u.k from t,u where t.k>9", "[]");
        ask("select u.k,t.k from u left join t on t.k>9 where u.k<3", "[1,-;2,-]");
        ask("select 1 from t", "[1;1;1;1]");
        ask("select distinct a from t", "[10;-;20]");
        ask("select distinct a,1 from t where k<>4", "[10,1;-,1]");
    }

    private static void groups() {
        ask("select a,count(*),count(w),sum(k),min(w),max(w)from t group by a",
                "[-,1,1,2,97,97;10,2,1,4,98,98;20,1,1,4,24930,24930]");
        ask("select a from t group by a having count(*)>1", "[10]");
        ask("select count(*),count(a),sum(a),min(w),max(a)from t where k>9", "[0,0,-,-,-]");
        ask("select a from t where k>9 group by a", "[]");
        ask("select sum(k)from t having count(*)>9", "[]");
        ask("select 1 from t having 1=1", "[1]");
        ask("select count(distinct a),sum(distinct a),count(a),sum(a),min(distinct k)from t", "[2,30,3,40,1]");
        ask("select count(null),sum(null),count(distinct null)from t", "[0,-,0]");
        ask("select u.t,t.w,count(*)from t,u where t.k<3 group by t,w",
                "[-,97,1;-,98,1;1,97,2;1,98,2;4,97,1;4,98,1]");
        ask("select t,w from t,u where t.k<3 and u.k<3 group by w,t", "[1,97;1,98]");
        ask("select a+1,sum(k)*2,case when max(k)>3 then 1 else 0 end from t group by a",
                "[-,4,0;11,8,0;21,8,1]");
        ask("select distinct count(*)from t group by a", "[1;2]");
        ask("select a,sum(case when exists(select*from u where u.t=t.k)then 1 else 0 end)from t group by a",
                "[-,0;10,1;20,1]");
        ask("select a from t group by a having exists(select*from u where u.k*10=t.a)", "[10;20]");
        ask("select k from t where 1=(case when exists(select sum(u.k)from u where u.t=t.k having count(*)>1)"
                + "then 1 else 0 end)", "[1]");
        ask("select count(*)from t,u", "[16]");
        ask("select a from t group by a,w", "[-;10;10;20]");
    }

    private static void unions() {
        ask("select a from t union select k from u", "[10;-;20;1;2;3;5]");
        ask("select a from t except select 20 from u", "[10;-]");
        ask("select a from t except select null from u", "[10;20]");
        ask("select a from t union select a from t", "[10;-;20]");
        ask("select k from t union select k from u except select 1 from u", "[2;3;4;5]");
        ask("select k from t except select k from u union select 9 from u", "[4;9]");
        ask("select k,a from t where k<3 union select k,t from u where k=2", "[1,10;2,-;2,1]");
        ask("select a from t except select 1 from u where k>9", "[10;-;20]");
        ask("select 7 from t union select k from u order by 1 down limit 2", "[7;5]");
    }

    private static void orders() {
        ask("select k,a from t order by 2", "[2,-;1,10;3,10;4,20]");
        ask("select k,a from t order by 2 down", "[4,20;1,10;3,10;2,-]");
        ask("select k,a from t order by 2 down,1 down", "[4,20;3,10;1,10;2,-]");
        ask("select a,k from t order by 1,2 down", "[-,2;10,3;10,1;20,4]");
        ask("select w from t order by 1", "[-;97;24930;98]");
        ask("select w from t order by 1 down", "[98;24930;97;-]");
        ask("select k from t limit 2", "[1;2]");
        ask("select k from t limit 0", "[]");
        ask("select k from t limit 9", "[1;2;3;4]");
        ask("select k from t limit 1 offset 2", "[3]");
        ask("select k from t limit 999999999 offset 3", "[4]");
        ask("select k from t limit 2 offset 4", "[]");
        ask("select k from t order by 1 down limit 2 offset 1", "[3;2]");
        ask("select a,a,k from t order by 1,2,3 down limit 2", "[-,-,2;10,10,3]");
        ask("select -k from t order by 1", "[-4;-3;-2;-1]");
    }

    private static void tests() {
        ask("select k from t where a=10", "[1;3]");
        ask("select k from t where not a=10", "[4]");
        ask("select k from t where a<>10 or a is null", "[2;4]");
        ask("select k from t where a is not null and w is not null", "[1;4]");
        ask("select k from t where not not a is null", "[2]");
        ask("select k from t where a in(10,null)", "[1;3]");
        ask("select k from t where a not in(10,null)", "[]");
        ask("select k from t where a not in(10)", "[4]");
        ask("select k from t where not a in(20,30)", "[1;3]");
        ask("select k from t where k in(select t from u)", "[1;4]");
        ask("select k from t where k not in(select t from u)", "[]");
        ask("select k from t where k not in(select t from u where t is not null)", "[2;3]");
        ask("select k from t where a in(select 1 from u where k>9)", "[]");
        ask("select k from t where a not in(select 1 from u where k>9)", "[1;2;3;4]");
        ask("select k from t where a between 10 and 15", "[1;3]");
        ask("select k from t where a not between 10 and 15", "[4]");
        ask("select k from t where a not between null and 5", "[1;3;4]");
        ask("select k from t where a between null and 50", "[]");
        ask("select k from t where exists(select*from u where u.t=t.k)", "[1;4]");
        ask("select k from t where not exists(select*from u where u.t=t.k)", "[2;3]");
        ask("select k from t where k=4 or k=1 and a=20", "[4]");
        ask("select k from t where [k=4 or k=1]and a=10", "[1]");
        ask("select k from t where not[k=4 or a=10]", "[]");
        ask("select k from t where not[k=1 and a=20]", "[1;2;3;4]");
        ask("select k from t where a=10 or k=2", "[1;2;3]");
        ask("select k from t where k<2", "[1]");
        ask("select k from t where k<=2", "[1;2]");
        ask("select k from t where k>=3", "[3;4]");
        ask("select k from t where 3<>k and 3>k-1", "[1;2]");
        ask("select k from t where null=null or null<>null", "[]");
        ask("select k from t where exists(select*from u where t>k and exists(select*from u as x where x.k=t.k))",
                "[1;2;3]");
    }

    private static void sums() {
        ask("select 7/2,-7/2,7%3,-7%3,7/0,7%0,1+null from t where k=1", "[3,-3,1,-1,-,-,-]");
        ask("select 2+3*4,(2+3)*4,10-3-2,2*7/4,7/2*2,- -5,-(2-3),1-2+3 from t where k=1",
                "[14,20,5,3,6,5,1,2]");
        long big = 999999999L * 999999999L * 999999999L;
        ask("select 999999999*999999999*999999999,-999999999*999999999*999999999 from t where k=1",
                "[" + big + "," + -big + "]");
        ask("select k+a,a*null,k/(k-1)from t", "[11,-,-;-,-,2;13,-,1;24,-,1]");
        ask("select case when a=10 then 'x' else w end,coalesce(a,0)from t",
                "[120,10;97,0;120,10;24930,20]");
        ask("select coalesce(null,coalesce(a,-1)),coalesce(null,null)from t where k<3", "[10,-;-1,-]");
        ask("select null,'abcdefgh'from t where k=1", "[-," + Calls.word("abcdefgh") + "]");
        // 2 to the 63rd goes round to the least long, which -1 divides to itself.
        String least = "65536*65536*65536*32768";
        ask("select " + least + "/-1,(" + least + ")%-1,-(" + least + ")from t where k=1",
                "[" + Long.MIN_VALUE + ",0," + Long.MIN_VALUE + "]");
    }

    private static void views() {
        Calls.play(hall, "create view v as select k,a from t where a is not null order by 1 down limit 2;"
                + "select*from v;select v.k,u.k from v,u where u.k<3;create view x as select a as b,count(*)as n "
                + "from v group by a;select*from x;select u.k,x.b from u left join x on x.n=u.k where u.k<3;"
                + "update t set a=30 where k=3;select*from v;select*from x;update t set a=10 where k=3;",
                "0", "[4,20;3,10]", "[4,1;4,2;3,1;3,2]", "0", "[10,1;20,1]", "[1,10;1,20;2,-]", "1",
                "[4,20;3,30]", "[20,1;30,1]", "1");
    }

    private static void words() {
        Snapshothall other = new Snapshothall();
        Calls.play(other, "create table t(w word,primary(w));insert into t values('b'),('ab'),('abc'),('a'),('zzzzzzzz');"
                + "select*from t;select min(w),max(w)from t;select w from t where w>='ab' and w<'b';",
                "0", "5", "[97;24930;6382179;98;" + Calls.word("zzzzzzzz") + "]",
                "[97," + Calls.word("zzzzzzzz") + "]", "[24930;6382179]");
    }
}
