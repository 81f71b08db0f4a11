/** Promises 5, 10 and 19, as section 11 tells them: spreads, plans and the output of explain. */
public final class PlanTest {
    private static Snapshothall hall;

    public static void main(String[] args) {
        hall = new Snapshothall();
        Calls.play(hall, "create table t(k int,a int,b int,primary(k));create table u(k int,a int,primary(k));"
                + "create index i on t(a,b);create index j on u(a);create view v as select*from t;"
                + "create table e(k int,primary(k));", "0", "0", "0", "0", "0", "0");
        Calls.play(hall, "insert into t values(0,0,0),(1,1,1),(2,0,2),(3,1,3),(4,0,4),(5,1,0),(6,0,1),(7,1,2),(8,0,3),"
                + "(9,1,4);insert into u values(0,0),(1,0),(2,0),(3,0),(4,0),(5,0);", "10", "6");
        Calls.due("height", hall.index(0, 3), 2);
        access();
        orders();
        around();
        output();
        spreads();
        Calls.end("PlanTest");
    }

    private static void plan(String query, String want) {
        Calls.play(hall, "explain " + query + ";", "" + want.length());
        Calls.due("plan of " + query, Calls.output(hall), want);
        Calls.due("byte behind the output", hall.outputByte(want.length()), Snapshothall.NONE);
    }

    private static void access() {
        plan("select*from t", "0scan,10;");
        plan("select*from t where k=3", "0.0,5;");
        plan("select*from t where 1+2=k", "0.0,5;");
        plan("select*from t where k=null", "0.0,5;");
        plan("select*from t where k>3", "0.0,7;");
        plan("select*from t where 3>=k", "0.0,7;");
        plan("select*from t where k<3 and k>1", "0.0,7;");
        plan("select*from t where k=1 and k>2", "0.0,5;");
        plan("select*from t where a=1 and b=2", "0.2,3;");
        plan("select*from t where b=2 and 1=a", "0.2,3;");
        plan("select*from t where a=1 and b>2", "0.2,4;");
        plan("select*from t where a=1", "0.2,5;");
        plan("select*from t where b=1", "0scan,10;");
        plan("select*from t where a<1 and b=2", "0.2,7;");
        plan("select*from t where a=1 and k=1", "0.0,5;");
        plan("select*from t where k=1 or k=2", "0scan,10;");
        plan("select*from t where[k=1]", "0scan,10;");
        plan("select*from t where(k)=1", "0scan,10;");
        plan("select*from t where k=(1)", "0.0,5;");
        plan("select*from t where k in(1)", "0scan,10;");
        plan("select*from t where k between 1 and 2", "0scan,10;");
        plan("select*from t where not k=1", "0scan,10;");
        plan("select*from t where k<>1", "0scan,10;");
        plan("select*from t where k=a", "0scan,10;");
        plan("select*from t where k=k", "0scan,10;");
        plan("select*from t where k+0=1", "0scan,10;");
        plan("select count(*)from t having min(k)=1", "0scan,10;");
        plan("select*from e", "0scan,0;");
        plan("select*from e where k=1", "0scan,0;");
        plan("select*from v where k=1", "0scan,20;");
    }

    private static void orders() {
        plan("select*from t,u", "1scan,0scan,66;");
        plan("select*from t,t as x", "0scan,1scan,110;");
        plan("select*from t,u where t.k=u.a", "1scan,0.0,36;");
        plan("select*from u,t where t.k=u.a", "0scan,1.0,36;");
        plan("select*from u,t where u.k>t.k", "0scan,1scan,66;");
        plan("select*from u join t on t.k=1 and u.k=2", "0.1,1.0,14;");
        plan("select*from u join t on t.k=1 or u.k=2", "0scan,1scan,66;");
        plan("select*from u join t on t.k=u.k where u.k=2 or 1=1", "0scan,1.0,36;");
        plan("select*from v,t where t.k=v.k", "0scan,1.0,70;");
        plan("select*from t,v where t.k=1", "0.0,1scan,65;");
        plan("select*from t left join u on u.k=t.k where t.k=1", "0.0,1scan,23;");
        plan("select*from t left join u on t.k=1", "0scan,1scan,70;");
        plan("select*from t left join u on 1=1 join u as x on x.k=t.k", "0scan,1scan,2.1,310;");
        plan("select*from t left join v on 1=1", "0scan,1scan,210;");
        plan("select*from t left join u on 1=1 where u.k=1", "0scan,1scan,70;");
        plan("select*from t,u,t as x where t.k=u.k and x.a=u.a and x.b=t.b", "1scan,0.0,2.2,90;");
        plan("select*from t,t as x,t as y where y.k=t.k+x.k and t.a<1", "0.2,1scan,2.0,307;");
        plan("select*from u,t,u as x where x.k=u.k and t.a=5 and t.b=x.a", "1.2,2.3,0.1,41;");
        plan("select*from e,t,u", "0scan,1scan,2scan,0;");
        plan("select*from t,e,u", "1scan,0scan,2scan,0;");
    }

    private static void around() {
        plan("select*from t where exists(select*from u where u.k=t.k)", "0scan,10;0.1,4;");
        plan("select*from t where exists(select*from u where u.k>t.k)", "0scan,10;0.1,5;");
        plan("select*from t where k=case when exists(select*from u)then 1 else 2 end", "0scan,10;0scan,6;");
        plan("select*from t where k in(select a from u where t.k=u.a)and k=1", "0.0,5;0.3,4;");
        plan("select k from u where k=1 union select k from t except select k from v", "0.1,4;0scan,10;0scan,20;");
        plan("select case when exists(select*from u,e)then 1 else 2 end from t where 1 in(select k from u where k<a)",
                "0scan,10;1scan,0scan,0;0scan,6;");
    }

    private static void output() {
        plan("select*from t where k=3", "0.0,5;");
        // Only an explain that is done writes the output anew.
        Calls.play(hall, "explain select ^x from t;select k from t where k=1;", "N", "[1]");
        Calls.due("output", Calls.output(hall), "0.0,5;");
        Calls.due("byte -1", hall.outputByte(-1), Snapshothall.NONE);
        Calls.due("byte 0", hall.outputByte(0), (int) '0');
        Calls.due("byte 5", hall.outputByte(5), (int) ';');
        Calls.due("byte far beyond", hall.outputByte(Integer.MAX_VALUE), Snapshothall.NONE);
        int transactions = hall.transactions();
        Calls.play(hall, "explain select*from t;", "9");
        Calls.due("columns of explain", hall.result(0, 4), 0);
        Calls.due("explain is no transaction", hall.transactions(), transactions);
    }

    private static void spreads() {
        int[] first = {4, 4, 4};
        int[] then = {10, 2, 5};
        for (int c = 0; c < 3; c++) {
            Calls.due("spread", hall.spread(0, c), first[c]);
        }
        Calls.play(hall, "analyze;", "16");
        for (int c = 0; c < 3; c++) {
            Calls.due("spread", hall.spread(0, c), then[c]);
        }
        Calls.due("spread without versions", hall.spread(2, 0), 1);
        Calls.due("spread of one value", hall.spread(1, 1), 1);
        plan("select*from t where k=3", "0.0,3;");
        plan("select*from t where a=1", "0.2,7;");
        plan("select*from t where a=1 and b=2", "0.2,3;");
        // Of like costs the scan, then the index with the least number; versions that were ended count.
        Calls.play(hall, "create index l on t(k);begin;update t set b=null where k<3;rollback;", "0", "0", "3", "0");
        plan("select*from t", "0scan,13;");
        plan("select*from t where k=3", "0.0,4;");
        plan("select*from u where k=3", "0.1,3;");
        Calls.play(hall, "delete from u where k>1;vacuum;", "4", "7");
        plan("select*from u where k=3", "0scan,2;");
        Calls.play(hall, "insert into t values(10,null,null);analyze;", "1", "13");
        Calls.due("NULL is no value", hall.spread(0, 1), 2);
        Calls.due("spread stays", hall.spread(0, 0), 11);
        Calls.refuses("spread of no table", IndexOutOfBoundsException.class, () -> hall.spread(9, 0));
        Calls.refuses("spread of table -1", IndexOutOfBoundsException.class, () -> hall.spread(-1, 0));
        Calls.refuses("spread of no column", IndexOutOfBoundsException.class, () -> hall.spread(0, 3));
        Calls.refuses("spread of column -1", IndexOutOfBoundsException.class, () -> hall.spread(0, -1));
    }
}
