/** The bounds of section 11, and of promises 10 and 19: spreads, equalities, bounds, accesses, orders, explain. */
public final class PlanEdgeTest {
    public static void main(String[] args) {
        spreadsAreFourAtFirst();
        spreadsAreOneAtLeast();
        spreadsCountVersions();
        sizesAreRoundedUp();
        accessesOfLikeCost();
        accessesOfNoVersions();
        indexesOfLikeCost();
        equalitiesOfTheFirstColumns();
        boundsOfTheNextColumn();
        equalitiesAloneOnASide();
        equalitiesWithASum();
        partsOfATest();
        partsBehindJoin();
        equalitiesOfEarlierSources();
        equalitiesOfBlocksAround();
        boundsOfBlocksAroundAlone();
        viewsHaveTheAccessScan();
        leftJoinsHaveTheAccessScan();
        leftJoinsKeepTheirOrder();
        ordersOfLeastCost();
        ordersOfLikeCost();
        costsOfSeveralSources();
        blocksInTheOrderOfTheText();
        outputsOfManyBytes();
        theOutputIsTheLatest();
        bytesOfTheOutput();
        Calls.end("PlanEdgeTest");
    }

    /** Tables t(k, a, b) with an index 2 on (a, b), and u(k, a) with an index 3 on a, with so many versions each. */
    private static Snapshothall hall(int ofT, int ofU) {
        Snapshothall hall = new Snapshothall();
        Calls.done(hall, "create table t(k int,a int,b int,primary(k));create table u(k int,a int,primary(k));"
                + "create index i on t(a,b);create index j on u(a);create view v as select*from t;");
        for (int i = 0; i < ofT; i++) {
            Calls.run(hall, "insert into t values(" + i + "," + i % 2 + "," + i % 5 + ");");
        }
        for (int i = 0; i < ofU; i++) {
            Calls.run(hall, "insert into u values(" + i + ",7);");
        }
        return hall;
    }

    private static void plan(Snapshothall hall, String query, String want) {
        Calls.play(hall, "explain " + query + ";", "" + want.length());
        Calls.due("plan of " + query, Calls.output(hall), want);
    }

    // "4 at first"
    private static void spreadsAreFourAtFirst() {
        Snapshothall hall = hall(9, 3);
        for (int c = 0; c < 3; c++) {
            Calls.due("spread", hall.spread(0, c), 4);
        }
        Calls.done(hall, "analyze;create table x(k int,primary(k));");
        Calls.due("spread of t", hall.spread(0, 0), 9);
        Calls.due("spread of a new one", hall.spread(2, 0), 4);
        Calls.done(hall, "insert into x values(1);drop table x;create table x(k int,primary(k));");
        Calls.due("spread of one made anew", hall.spread(3, 0), 4);
    }

    // "and 1 at least"
    private static void spreadsAreOneAtLeast() {
        Snapshothall hall = hall(0, 1);
        Calls.play(hall, "analyze;", "1");
        Calls.due("spread without versions", hall.spread(0, 0), 1);
        Calls.due("spread of one value", hall.spread(1, 1), 1);
        Calls.play(hall, "insert into t values(1,null,null),(2,null,5),(3,null,5);analyze;", "3", "4");
        Calls.due("spread of NULLs", hall.spread(0, 1), 1);
        Calls.due("spread of one value and NULL", hall.spread(0, 2), 1);
        Calls.due("spread of a key", hall.spread(0, 0), 3);
    }

    // "the number of different values (NULL is none) of the versions that are there"
    private static void spreadsCountVersions() {
        Snapshothall hall = hall(5, 0);
        Calls.done(hall, "delete from t where k<2;begin;insert into t values(7,70,0),(8,80,0);rollback;begin;insert into t values"
                + "(9,90,null);");
        Calls.play(hall, "analyze;", "8");
        Calls.due("spread of k", hall.spread(0, 0), 8);
        Calls.due("spread of a", hall.spread(0, 1), 5);
        Calls.due("spread of b", hall.spread(0, 2), 5);
        Calls.done(hall, "vacuum;");
        Calls.due("spread behind vacuum", hall.spread(0, 0), 8);
        Calls.play(hall, "analyze;", "4");
        Calls.due("spread behind analyze", hall.spread(0, 0), 4);
        Calls.due("spread of a behind analyze", hall.spread(0, 1), 3);
        Calls.due("spread of b behind analyze", hall.spread(0, 2), 3);
    }

    // "Its size is N, divided for each of the e columns by the spread of it, rounded up each time, and then by 2,
    // rounded up, if the column e has a bound; its cost is the height and the size together."
    private static void sizesAreRoundedUp() {
        Snapshothall hall = hall(0, 0);
        for (int n = 1; n <= 60; n++) {
            Calls.run(hall, "insert into t values(" + n + ",1,1);");
            int height = hall.index(0, 3);
            int quarter = (n + 3) / 4;
            int half = (n + 1) / 2;
            String scan = "0scan," + n + ";";
            plan(hall, "select*from t where k=1", height + quarter < n ? "0.0," + (height + quarter) + ";" : scan);
            plan(hall, "select*from t where k>1", height + half < n ? "0.0," + (height + half) + ";" : scan);
            int sixteenth = (quarter + 3) / 4;
            int heightOfTwo = hall.index(2, 3);
            plan(hall, "select*from t where a=1 and b=1",
                    heightOfTwo + sixteenth < n ? "0.2," + (heightOfTwo + sixteenth) + ";" : scan);
            int eighth = (quarter + 1) / 2;
            plan(hall, "select*from t where a=1 and b>1",
                    heightOfTwo + eighth < n ? "0.2," + (heightOfTwo + eighth) + ";" : scan);
        }
    }

    // "the least cost, of several scan"
    private static void accessesOfLikeCost() {
        plan(hall(1, 0), "select*from t where k=1", "0scan,1;");
        plan(hall(2, 0), "select*from t where k=1", "0scan,2;");
        plan(hall(3, 0), "select*from t where k=1", "0.0,2;");
        plan(hall(2, 0), "select*from t where k<1", "0scan,2;");
        plan(hall(3, 0), "select*from t where k<1", "0scan,3;");
        plan(hall(4, 0), "select*from t where k<1", "0.0,3;");
        plan(hall(5, 0), "select*from t where k<1", "0scan,5;");
        plan(hall(6, 0), "select*from t where k<1", "0.0,5;");
    }

    private static void accessesOfNoVersions() {
        Snapshothall hall = hall(0, 0);
        plan(hall, "select*from t", "0scan,0;");
        plan(hall, "select*from t where k=1", "0scan,0;");
        plan(hall, "select*from t,u", "0scan,1scan,0;");
        plan(hall, "select*from t,u where t.k=1", "0scan,1scan,0;");
        plan(hall, "select*from v", "0scan,20;");
        Calls.done(hall, "analyze;");
        plan(hall, "select*from t where k=1", "0scan,0;");
    }

    // "then the index with the least number"
    private static void indexesOfLikeCost() {
        Snapshothall hall = hall(8, 0);
        Calls.done(hall, "create index l on t(b);create index m on t(a);");
        plan(hall, "select*from t where a=1", "0.2,4;");
        plan(hall, "select*from t where b=1", "0.4,4;");
        plan(hall, "select*from t where b=1 and k=1", "0.0,4;");
        plan(hall, "select*from t where b=1 and a=1", "0.2,3;");
        plan(hall, "select*from t where b=1 and a>1", "0.4,4;");
        Calls.done(hall, "drop index i;");
        plan(hall, "select*from t where a=1", "0.5,4;");
        plan(hall, "select*from t where b=1 and a=1", "0.4,4;");
        Calls.done(hall, "create index i on t(b,k,a);");
        plan(hall, "select*from t where b=1 and a=1", "0.4,4;");
        plan(hall, "select*from t where b=1 and k=1", "0.6,3;");
        plan(hall, "select*from t where b=1 and k<1", "0.6,3;");
        plan(hall, "select*from t where b=1 and k<1 and a=1", "0.6,3;");
    }

    // "let its first e columns all have equalities, and the next one not; e is at least 1, or the column e ... a bound"
    private static void equalitiesOfTheFirstColumns() {
        Snapshothall hall = hall(10, 0);
        plan(hall, "select*from t where a=1", "0.2,5;");
        plan(hall, "select*from t where b=1", "0scan,10;");
        plan(hall, "select*from t where a=1 and b=1", "0.2,3;");
        plan(hall, "select*from t where a=1 and a=2", "0.2,5;");
        plan(hall, "select*from t where b>1", "0scan,10;");
        plan(hall, "select*from t where a>1 and b=1", "0.2,7;");
        plan(hall, "select*from t where a>1 and b>1", "0.2,7;");
    }

    private static void boundsOfTheNextColumn() {
        Snapshothall hall = hall(10, 0);
        for (String sign : new String[] {"<", "<=", ">", ">="}) {
            plan(hall, "select*from t where k" + sign + "1", "0.0,7;");
            plan(hall, "select*from t where 1" + sign + "k", "0.0,7;");
            plan(hall, "select*from t where a=1 and b" + sign + "1", "0.2,4;");
        }
        plan(hall, "select*from t where k<>1", "0scan,10;");
        // Several bounds halve once; a column with both has an equality.
        plan(hall, "select*from t where k<1 and k>1", "0.0,7;");
        plan(hall, "select*from t where k<1 and k=1", "0.0,5;");
        plan(hall, "select*from t where a=1 and a<1 and b<1 and b>0", "0.2,4;");
    }

    // "a ref of it, alone (not in brackets) on one side of ="
    private static void equalitiesAloneOnASide() {
        Snapshothall hall = hall(10, 0);
        plan(hall, "select*from t where k=1", "0.0,5;");
        plan(hall, "select*from t where t.k=1", "0.0,5;");
        plan(hall, "select*from t as x where x.k=1", "0.0,5;");
        plan(hall, "select*from t where 1=k", "0.0,5;");
        for (String none : new String[] {"(k)=1", "1=(k)", "k+0=1", "-k=1", "k*1=1", "k in(1)", "k between 1 and 1",
            "k is null", "not k=1", "[k=1]", "[[k=1]]", "coalesce(k,1)=1", "k<>1"}) {
            plan(hall, "select*from t where " + none, "0scan,10;");
        }
    }

    // "with a sum without queries on the other one in which all refs are of sources that come earlier ..., or of blocks
    // around"
    private static void equalitiesWithASum() {
        Snapshothall hall = hall(10, 0);
        for (String sum : new String[] {"1", "(1)", "1+2*3", "-1", "null", "case when 1=1 then 1 else 2 end",
            "coalesce(null,2)"}) {
            plan(hall, "select*from t where k=" + sum, "0.0,5;");
            plan(hall, "select*from t where k<" + sum, "0.0,7;");
        }
        for (String sum : new String[] {"k", "a", "a+1", "t.b", "case when a=1 then 1 else 2 end"}) {
            plan(hall, "select*from t where k=" + sum, "0scan,10;");
            plan(hall, "select*from t where k<" + sum, "0scan,10;");
        }
        plan(hall, "select*from t where k=case when exists(select*from u)then 1 else 2 end", "0scan,10;0scan,0;");
        plan(hall, "select*from t where k<case when 1 in(select k from u)then 1 else 2 end", "0scan,10;0scan,0;");
    }

    // "if its test behind where has no or at its top, those that its ands join ...; as they stand, not within brackets"
    private static void partsOfATest() {
        Snapshothall hall = hall(10, 0);
        plan(hall, "select*from t where k=1 and a=5 and b=5", "0.2,3;");
        plan(hall, "select*from t where k=1 or 1=2", "0scan,10;");
        plan(hall, "select*from t where 1=2 or k=1 and a=1", "0scan,10;");
        plan(hall, "select*from t where k=1 and[a=1 or b=1]", "0.0,5;");
        plan(hall, "select*from t where[k=1 or k=2]and a=1", "0.2,5;");
        plan(hall, "select*from t where[k=1 and a=1]", "0scan,10;");
        plan(hall, "select*from t where not k=1 and a=1", "0.2,5;");
        plan(hall, "select*from t", "0scan,10;");
        plan(hall, "select k from t group by k having k=1", "0scan,10;");
        plan(hall, "select case when k=1 then 1 else 2 end from t", "0scan,10;");
    }

    // "and likewise those of the tests behind join (not of those behind left join)"
    private static void partsBehindJoin() {
        Snapshothall hall = hall(10, 6);
        plan(hall, "select*from u join t on t.k=1", "1.0,0scan,23;");
        plan(hall, "select*from u join t on u.k=1", "0.1,1scan,24;");
        plan(hall, "select*from u join t on t.k=1 or 1=2", "0scan,1scan,66;");
        plan(hall, "select*from u join t on t.k=1 and u.k=1 where t.a=1 or 1=1", "0.1,1.0,14;");
        plan(hall, "select*from u join t on 1=1 or 1=2 where t.k=1 and u.k=1", "0.1,1.0,14;");
        plan(hall, "select*from u join t on t.k=u.k", "0scan,1.0,36;");
        plan(hall, "select*from u left join t on t.k=1", "0scan,1scan,66;");
        plan(hall, "select*from u left join t on u.k=1", "0scan,1scan,66;");
        plan(hall, "select*from u left join t on 1=1 where u.k=1", "0.1,1scan,24;");
        plan(hall, "select*from u left join t on 1=1 join t as x on x.k=1", "0scan,1scan,2.0,366;");
    }

    // "of sources that come earlier in the order"
    private static void equalitiesOfEarlierSources() {
        Snapshothall hall = hall(10, 6);
        plan(hall, "select*from t,u where t.k=u.k", "1scan,0.0,36;");
        plan(hall, "select*from u,t where t.k=u.k", "0scan,1.0,36;");
        plan(hall, "select*from t,u where u.k=t.a", "1scan,0.2,36;");
        plan(hall, "select*from t,u where t.k=u.k+u.a", "1scan,0.0,36;");
        plan(hall, "select*from t,u where t.k=u.k+t.a", "1scan,0scan,66;");
        plan(hall, "select*from t,u,u as x where t.k=u.k+x.k", "1scan,2scan,0.0,222;");
        plan(hall, "select*from t,u,u as x where t.k=u.k and x.k=t.a", "1scan,0.0,2.1,108;");
        // A bound is by blocks around alone.
        plan(hall, "select*from t,u where t.k<u.k", "1scan,0scan,66;");
        plan(hall, "select*from t,u where t.k<u.k and u.k<5", "1.1,0scan,35;");
    }

    // "or of blocks around"
    private static void equalitiesOfBlocksAround() {
        Snapshothall hall = hall(10, 6);
        plan(hall, "select*from u where exists(select*from t where t.k=u.k)", "0scan,6;0.0,5;");
        plan(hall, "select*from u where exists(select*from t where t.k=u.k+t.a)", "0scan,6;0scan,10;");
        plan(hall, "select*from u where exists(select*from t where exists(select*from u as x where x.k=u.k+t.k))",
                "0scan,6;0scan,10;0.1,4;");
        plan(hall, "select*from u where exists(select*from t,u as x where t.k=u.k+x.k)", "0scan,6;1scan,0.0,36;");
        plan(hall, "select*from u where exists(select*from u as x join t on t.k=u.k)", "0scan,6;1.0,0scan,23;");
    }

    private static void boundsOfBlocksAroundAlone() {
        Snapshothall hall = hall(10, 6);
        plan(hall, "select*from u where exists(select*from t where t.k<u.k)", "0scan,6;0.0,7;");
        plan(hall, "select*from u where exists(select*from t where t.k<u.k+t.a)", "0scan,6;0scan,10;");
        plan(hall, "select*from u where exists(select*from t,u as x where t.k<u.k+x.k)", "0scan,6;1scan,0scan,66;");
        plan(hall, "select*from u where k<3 and exists(select*from t where u.k<3)", "0.1,5;0scan,10;");
    }

    // "A view has the cost 20 and the size 10."; "A view ... has the access scan alone."
    private static void viewsHaveTheAccessScan() {
        Snapshothall hall = hall(10, 6);
        plan(hall, "select*from v", "0scan,20;");
        plan(hall, "select*from v where k=1", "0scan,20;");
        plan(hall, "select*from v,v as x", "0scan,1scan,220;");
        plan(hall, "select*from v,v as x,v as y", "0scan,1scan,2scan,2220;");
        plan(hall, "select*from v,u", "0scan,1scan,80;");
        plan(hall, "select*from v,t", "0scan,1scan,120;");
        plan(hall, "select*from t,v", "1scan,0scan,120;");
        plan(hall, "select*from v,u where u.k=v.k", "0scan,1.1,60;");
        plan(hall, "select*from v,u where u.k=1", "1.1,0scan,44;");
    }

    // "and a source behind left join, has the access scan alone"
    private static void leftJoinsHaveTheAccessScan() {
        Snapshothall hall = hall(10, 6);
        plan(hall, "select*from u left join t on t.k=u.k", "0scan,1scan,66;");
        plan(hall, "select*from u left join t on t.k=u.k where t.k=1", "0scan,1scan,66;");
        plan(hall, "select*from u left join t on 1=1 where u.k=1 and t.k=1", "0.1,1scan,24;");
        plan(hall, "select*from u left join v on 1=1", "0scan,1scan,126;");
        plan(hall, "select*from u left join t on 1=1,t as x where x.k=t.k", "0scan,1scan,2.0,366;");
    }

    // "a block with left join has its sources in the order in which they stand"
    private static void leftJoinsKeepTheirOrder() {
        Snapshothall hall = hall(10, 6);
        plan(hall, "select*from t left join u on 1=1", "0scan,1scan,70;");
        plan(hall, "select*from t,u", "1scan,0scan,66;");
        plan(hall, "select*from t,u left join t as x on 1=1", "0scan,1scan,2scan,670;");
        plan(hall, "select*from t left join u on 1=1,u as x where x.k=1 and t.k=1", "0.0,1scan,2.1,95;");
        plan(hall, "select*from t,u union select*from t left join u on 1=1", "1scan,0scan,66;0scan,1scan,70;");
    }

    // "The order of a block is the one with the least cost"
    private static void ordersOfLeastCost() {
        Snapshothall hall = hall(10, 6);
        plan(hall, "select*from t,u", "1scan,0scan,66;");
        plan(hall, "select*from u,t", "0scan,1scan,66;");
        plan(hall, "select*from t,u,u as x where x.k=1", "2.1,1scan,0scan,136;");
        plan(hall, "select*from u as x,t,u where t.k=1", "1.0,0scan,2scan,131;");
        // Each order of three sources: the lesser ones first.
        plan(hall, "select*from u,u as x,t", "0scan,1scan,2scan,402;");
        plan(hall, "select*from u,t,u as x", "0scan,2scan,1scan,402;");
        plan(hall, "select*from t,u,u as x", "1scan,2scan,0scan,402;");
        plan(hall, "select*from t,u,u as x where u.k=5", "1.1,2scan,0scan,136;");
        plan(hall, "select*from t,u,u as x where x.k=5", "2.1,1scan,0scan,136;");
        plan(hall, "select*from u,t,u as x where x.k=5", "2.1,0scan,1scan,136;");
        plan(hall, "select*from u,u as x,t where x.k=5", "1.1,0scan,2scan,136;");
        plan(hall, "select*from t,u,t as x where x.k=u.k and t.k=x.a", "1scan,2.0,0.0,126;");
        plan(hall, "select*from t,t as x,t as y where t.k=y.k and x.k=t.k and y.a=1 and y.b=1", "2.2,0.0,1.0,23;");
    }

    // "of several the one whose sources, one after the other, have the lesser numbers"
    private static void ordersOfLikeCost() {
        Snapshothall hall = hall(10, 10);
        plan(hall, "select*from t,u", "0scan,1scan,110;");
        plan(hall, "select*from t,t as x,t as y", "0scan,1scan,2scan,1110;");
        plan(hall, "select*from t,t as x,t as y where y.k=1", "2.0,0scan,1scan,335;");
        plan(hall, "select*from t,t as x,t as y where x.k=1", "1.0,0scan,2scan,335;");
        plan(hall, "select*from t,t as x,t as y where t.k=1", "0.0,1scan,2scan,335;");
        plan(hall, "select*from t,t as x,t as y where x.k=t.k", "0scan,1.0,2scan,360;");
        plan(hall, "select*from t,t as x,t as y where y.k=x.k", "1scan,2.0,0scan,360;");
    }

    // "the sum, over its sources, of the cost of the access times the product of the sizes of the sources ahead of it"
    private static void costsOfSeveralSources() {
        Snapshothall hall = hall(10, 6);
        // 6, then 6 * 6, then 36 * 10.
        plan(hall, "select*from u,u as x,t", "0scan,1scan,2scan,402;");
        // 4 by size 2, then 2 * 5 by size 3, then 6 * 20.
        plan(hall, "select*from u,t,v where u.k=1 and t.k=u.a", "0.1,1.0,2scan,134;");
        // Sources of size 0 make all behind them free.
        Snapshothall empty = hall(10, 0);
        plan(empty, "select*from t,v,u", "2scan,0scan,1scan,0;");
        plan(empty, "select*from t left join v on 1=1,u", "0scan,1scan,2scan,210;");
        // The greatest there can be of three views and of tables.
        Snapshothall full = hall(100, 0);
        plan(full, "select*from t,t as x,t as y", "0scan,1scan,2scan,1010100;");
    }

    // "for each block of the query in the order in which they stand in the text (those of views left out)"
    private static void blocksInTheOrderOfTheText() {
        Snapshothall hall = hall(10, 6);
        plan(hall, "select*from t union select*from t as x where k=1 except select*from v", "0scan,10;0.0,5;0scan,20;");
        plan(hall, "select case when exists(select*from u)then 1 else 2 end from t where 1 in(select k from u where k=1)"
                + "union select k from v where exists(select*from u,t)", "0scan,10;0scan,6;0.1,4;0scan,20;0scan,1scan,66;");
        plan(hall, "select 1 from t join u on exists(select*from u as x where x.k=t.k)having exists(select*from v)",
                "1scan,0scan,66;0.1,4;0scan,20;");
        plan(hall, "select*from t where exists(select*from u where exists(select*from v)and exists(select*from t as x))",
                "0scan,10;0scan,6;0scan,20;0scan,10;");
    }

    private static void outputsOfManyBytes() {
        Snapshothall hall = hall(10, 6);
        String block = "select 1 from u,u as x,u as y where ";
        String plan = "0scan,1scan,2scan,258;";
        StringBuilder query = new StringBuilder();
        StringBuilder want = new StringBuilder();
        for (int i = 1; i <= 8; i++) {
            query.append(block).append("exists(");
            want.append(plan);
            plan(hall, query + block + "1=1" + ")".repeat(i), want + plan);
            Calls.due("length", Calls.output(hall).length(), 22 * (i + 1));
        }
        // With views of great cost: three of these, and three again.
        String views = "select 1 from v,v as x,v as y";
        plan(hall, views + " union " + views + " except " + views, "0scan,1scan,2scan,2220;".repeat(3));
        plan(hall, "select*from u", "0scan,6;");
        Calls.due("a byte of the longer one", hall.outputByte(8), Snapshothall.NONE);
    }

    // "the output, which explain wrote latest"
    private static void theOutputIsTheLatest() {
        Snapshothall hall = hall(10, 6);
        Calls.due("no output at first", Calls.output(hall), "");
        plan(hall, "select*from t where k=1", "0.0,5;");
        Calls.play(hall, "explain select ^x from t;select*from u where k=1;", "N", "[1,7]");
        Calls.due("output behind a refused one", Calls.output(hall), "0.0,5;");
        Calls.run(hall, "explain select*from t;explain select*from u;");
        Calls.due("output of the latest", Calls.output(hall), "0scan,6;");
        hall.setFuse(1, false);
        Calls.play(hall, "delete from t;explain select*from t;", "P", "P");
        Calls.due("output while the power is off", Calls.output(hall), "0scan,6;");
        hall.restart();
        Calls.due("output behind restart", Calls.output(hall), "0scan,6;");
        plan(hall, "select*from u,u as x,u as y", "0scan,1scan,2scan,258;");
        plan(hall, "select*from u", "0scan,6;");
    }

    // "NONE if there is no such byte"
    private static void bytesOfTheOutput() {
        Snapshothall hall = hall(10, 6);
        for (int i : new int[] {0, 1, -1, Integer.MAX_VALUE, Integer.MIN_VALUE}) {
            Calls.due("byte " + i + " of none", hall.outputByte(i), Snapshothall.NONE);
        }
        plan(hall, "select*from t where k=1", "0.0,5;");
        Calls.due("the first", hall.outputByte(0), 48);
        Calls.due("the last", hall.outputByte(5), 59);
        for (int i : new int[] {6, 7, 63, 64, -1, Integer.MAX_VALUE, Integer.MIN_VALUE}) {
            Calls.due("byte " + i, hall.outputByte(i), Snapshothall.NONE);
        }
    }
}
