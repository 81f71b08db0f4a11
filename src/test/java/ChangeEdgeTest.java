/** The bounds of section 8: what insert, update and delete make and end, each rule, RULE and CONFLICT. */
public final class ChangeEdgeTest {
    public static void main(String[] args) {
        insertsMakeVersionsInOrder();
        updatesInTheOrderOfKeys();
        setsSeeTheRowAsItWas();
        deletesEndVersions();
        changesOfNoRows();
        conflictAheadOfAllChanges();
        notNullOfEachColumn();
        primaryIsNoNull();
        primaryOfOneSeen();
        uniqueWithNulls();
        uniqueOfSeveralColumns();
        likeOnesThatAreNotSeen();
        likeOnesThatAreDead();
        likeOnesThatItEndedItself();
        likeOnesWhoseEnderCommitted();
        checksThatAreFalse();
        refersToOneSeen();
        refersToOneWithAnEnder();
        refersToItself();
        endedKeysThatAreReferredTo();
        keysThatARowHasNow();
        referringRowsThatAreNotSeen();
        rulesInTheirOrder();
        versionsMadeAheadOfVersionsEnded();
        tablesByNumberAndRulesInOrder();
        numbersOfRules();
        rulesOfRefusedStatementsLeaveTrees();
        Calls.end("ChangeEdgeTest");
    }

    private static Snapshothall hall() {
        Snapshothall hall = new Snapshothall();
        Calls.done(hall, "create table t(k int,a int,primary(k));insert into t values(3,30),(1,10),(2,20);");
        return hall;
    }

    private static void versions(Snapshothall hall, int table, long[][] due) {
        Calls.due("versions", hall.table(table, 2), due.length);
        for (int p = 0; p < due.length; p++) {
            for (int c = 0; c < due[p].length; c++) {
                Calls.due("version " + p + " of table " + table + ", column " + c, hall.valueAt(table, p, c), due[p][c]);
            }
        }
    }

    // "insert makes a version for each tuple, in their order ..., or for each row of the query's answer"
    private static void insertsMakeVersionsInOrder() {
        Snapshothall hall = hall();
        versions(hall, 0, new long[][] {{3, 30}, {1, 10}, {2, 20}});
        Calls.play(hall, "insert into t select k+10,a from t order by 1 down limit 2;insert into t values(1+4,2*3);"
                + "insert into t select*from t where 1=2;", "2", "1", "0");
        versions(hall, 0, new long[][] {{3, 30}, {1, 10}, {2, 20}, {13, 30}, {12, 20}, {5, 6}});
        // The greatest number of tuples, and the greatest number of columns.
        Calls.play(hall, "create table w(a int,b int,c int,d int,e int,f int,primary(f));insert into w values"
                + Calls.many("(1,2,3,4,5,9)", ",", 10) + ";", "0", "R10");
        Calls.play(hall, "insert into w values(0,0,0,0,0,1),(0,0,0,0,0,2),(0,0,0,0,0,3),(0,0,0,0,0,4),(0,0,0,0,0,5),"
                + "(0,0,0,0,0,6),(0,0,0,0,0,7),(0,0,0,0,0,8),(0,0,0,0,0,9),(0,0,0,0,0,10);", "10");
    }

    // "update ends, for each row of the table for which the test is TRUE, in the order of keys, the version that is seen"
    private static void updatesInTheOrderOfKeys() {
        Snapshothall hall = hall();
        Calls.play(hall, "update t set a=a+1;", "3");
        versions(hall, 0, new long[][] {{3, 30}, {1, 10}, {2, 20}, {1, 11}, {2, 21}, {3, 31}});
        Calls.play(hall, "update t set a=null where a>20;update t set a=5 where a=null;update t set a=5 where not a=11;",
                "2", "0", "0");
        Calls.play(hall, "update t set a=5 where a is null;select*from t;", "2", "[1,11;2,5;3,5]");
    }

    // "the values of the sums behind set, which are worked out by the row as it was"
    private static void setsSeeTheRowAsItWas() {
        Snapshothall hall = hall();
        Calls.play(hall, "update t set k=a,a=k;select*from t;update t set a=a+k,k=k-a;select*from t;", "3",
                "[10,1;20,2;30,3]", "3", "[9,11;18,22;27,33]");
        Calls.play(hall, "update t set a=k;update t set k=k+100 where exists(select*from t as x where x.k=t.a+9);select*from t;",
                "3", "2", "[27,27;109,9;118,18]");
    }

    private static void deletesEndVersions() {
        Snapshothall hall = hall();
        Calls.play(hall, "delete from t where k>1;", "2");
        int[] enders = {2, -1, 2};
        for (int p = 0; p < 3; p++) {
            Calls.due("ender", hall.version(0, p, 1), enders[p]);
        }
        Calls.play(hall, "delete from t;delete from t;", "1", "0");
    }

    private static void changesOfNoRows() {
        Snapshothall hall = new Snapshothall();
        Calls.play(hall, "create table e(k int,primary(k));update e set k=1;delete from e;insert into e select*from e;"
                + "select*from e;", "0", "0", "0", "0", "[]");
        Calls.due("versions", hall.table(0, 2), 0);
        Calls.due("clock", hall.clock(), 1);
        Calls.due("writes", hall.writes(), 12);
    }

    // "CONFLICT, ahead of all changes, in the order of rows: the version to be ended has an ender already"
    private static void conflictAheadOfAllChanges() {
        String[][] due = {{"delete from t where k=3", "C"}, {"delete from t where k=2", "1"}, {"delete from t", "C"},
            {"update t set a=1 where k=3", "C"}, {"update t set k=null where k=3", "C"}, {"update t set k=1", "C"},
            {"update t set a=1 where k<3", "2"}, {"select k from t", "[1;2;3]"}, {"delete from t where k=9", "0"}};
        for (String[] one : due) {
            // Of one that is open still.
            Snapshothall hall = hall();
            Calls.play(hall, "0:begin;1:begin snapshot;0:update t set a=0 where k=3;1:" + one[0] + ";", "0", "0", "1", one[1]);
            // Of one that has committed behind the snapshot.
            hall = hall();
            Calls.play(hall, "1:begin snapshot;0:delete from t where k=3;1:" + one[0] + ";", "0", "1", one[1]);
            // Of one that was rolled back, it has no ender.
            hall = hall();
            Calls.play(hall, "1:begin snapshot;0:begin;delete from t where k=3;rollback;1:delete from t;", "0", "0", "1", "0",
                    "3");
            // What was ended by then is not seen.
            hall = hall();
            Calls.play(hall, "0:delete from t where k=3;1:begin snapshot;delete from t;", "1", "0", "2");
        }
    }

    // "not null of its columns, in their order (RULE)"
    private static void notNullOfEachColumn() {
        Snapshothall hall = new Snapshothall();
        Calls.done(hall, "create table x(k int,primary(k));create table t(a int not null,k int,b word not null,check(a>0),"
                + "primary(k));");
        Calls.play(hall, "insert into t values(null,1,'a');insert into t values(1,1,null);insert into t values(null,null,null);"
                + "insert into t values(0,null,null);insert into t values(1,null,'a');insert into t values(1,1,'a');"
                + "update t set a=null;update t set b=null,a=0;update t set k=null;", "R19", "R19", "R19", "R19", "R11", "1", "R19",
                "R19", "R11");
        // A key that is told as not null, too.
        Calls.play(hall, "create table u(k int not null,primary(k));insert into u values(null);", "0", "R29");
    }

    // "primary: its value is NULL (RULE)"
    private static void primaryIsNoNull() {
        Snapshothall hall = hall();
        Calls.play(hall, "insert into t values(null,1);insert into t select null,1 from t;update t set k=null;"
                + "insert into t values(7,null);", "R0", "R0", "R0", "1");
    }

    // "primary and unique ...: another version with like values, which the transaction sees now, is there (RULE)"
    private static void primaryOfOneSeen() {
        Snapshothall hall = hall();
        Calls.play(hall, "insert into t values(3,0);insert into t values(4,0),(4,0);insert into t values(4,0),(5,0),(4,1);"
                + "update t set k=1;update t set k=2 where k=1;update t set k=k+1;update t set k=6-k;select k from t;"
                + "delete from t where k=3;insert into t values(3,0);", "R0", "R0", "R0", "R0", "R0", "3", "3", "[2;3;4]",
                "1", "1");
        // The version itself is none, nor is the one that it is made of.
        Calls.play(hall, "update t set k=k;update t set a=a;", "3", "3");
    }

    // "(if none of its values is NULL)"
    private static void uniqueWithNulls() {
        Snapshothall hall = new Snapshothall();
        Calls.done(hall, "create table t(k int,a int,b int,primary(k),unique(a),unique(a,b));");
        Calls.play(hall, "insert into t values(1,null,1),(2,null,1),(3,null,null),(4,null,null);insert into t values(5,1,null),"
                + "(6,1,null);insert into t values(5,1,null);insert into t values(6,1,1);insert into t values(6,2,1);"
                + "update t set a=null where k=5;insert into t values(7,1,1);", "4", "R1", "1", "R1", "1", "1", "1");
    }

    private static void uniqueOfSeveralColumns() {
        Snapshothall hall = new Snapshothall();
        Calls.done(hall, "create table t(k int,a int,b word,c int,primary(k),unique(b,a,c));");
        Calls.play(hall, "insert into t values(1,1,'a',1);insert into t values(2,1,'a',2),(3,1,'b',1),(4,2,'a',1),(5,null,'a',1);"
                + "insert into t values(6,1,'a',1);insert into t values(6,1,null,1),(7,1,null,1);insert into t values(8,2,'a',1);"
                + "update t set c=1 where k=2;update t set a=9;", "1", "4", "R1", "2", "R1", "R1", "R1");
        // The key with another column.
        Calls.play(hall, "create table u(k int,a int,primary(k),unique(k,a));insert into u values(1,1),(2,1);update u set a=2;",
                "0", "2", "2");
    }

    // "or one that it does not see and has not ended itself, that is not DEAD, and whose ender, if any, has not committed
    // (CONFLICT)"
    private static void likeOnesThatAreNotSeen() {
        // One that is open has made it.
        Snapshothall hall = hall();
        Calls.play(hall, "0:begin snapshot;1:begin snapshot;0:insert into t values(7,7);1:insert into t values(7,8);", "0", "0",
                "1", "C");
        // One that committed behind the snapshot has made it.
        Calls.play(hall, "1:begin snapshot;2:insert into t values(8,8);1:insert into t values(8,8);", "0", "1", "C");
        // One that it does not see and that one which is open still has ended.
        Calls.play(hall, "1:begin snapshot;2:insert into t values(9,9);3:begin;delete from t where k=9;1:insert into t "
                + "values(9,9);", "0", "1", "0", "1", "C");
        // It is seen, but about to be ended by another one: RULE.
        Calls.play(hall, "3:rollback;1:begin snapshot;3:begin;delete from t where k=9;1:insert into t values(9,9);",
                "0", "0", "0", "1", "R0");
        Calls.play(hall, "3:commit;1:insert into t values(9,9);rollback;insert into t values(9,9);", "0", "R0", "0", "1");
        // Of one seen and one that is not, the one seen is told.
        hall = new Snapshothall();
        Calls.done(hall, "create table t(k int,a int,primary(k),unique(a));insert into t values(1,10);");
        Calls.play(hall, "0:begin snapshot;1:update t set k=2;0:insert into t values(5,10);insert into t values(2,11);",
                "0", "1", "R1", "C");
    }

    private static void likeOnesThatAreDead() {
        Snapshothall hall = hall();
        Calls.play(hall, "0:begin snapshot;1:begin;insert into t values(7,7);rollback;0:insert into t values(7,8);commit;",
                "0", "0", "1", "0", "1", "0");
        Calls.play(hall, "begin;save p;insert into t values(8,8);rollback to p;insert into t values(8,9);commit;select a from t "
                + "where k>6;", "0", "0", "1", "0", "1", "0", "[8;9]");
    }

    private static void likeOnesThatItEndedItself() {
        Snapshothall hall = hall();
        Calls.play(hall, "begin;delete from t where k=1;insert into t values(1,11);delete from t where k=1;insert into t "
                + "values(1,12);update t set k=5 where k=1;insert into t values(1,13);commit;select*from t;", "0", "1", "1",
                "1", "1", "1", "1", "0", "[1,13;2,20;3,30;5,12]");
    }

    // "and whose ender, if any, has not committed"
    private static void likeOnesWhoseEnderCommitted() {
        // One that it does not see was made and ended by ones that committed behind its snapshot.
        Snapshothall hall = hall();
        Calls.play(hall, "0:begin snapshot;1:insert into t values(7,7);delete from t where k=7;0:insert into t values(7,8);"
                + "commit;select a from t where k=7;", "0", "1", "1", "1", "0", "[8]");
        // Made and ended by one that is open: the ender has not committed.
        hall = hall();
        Calls.play(hall, "0:begin snapshot;1:begin snapshot;insert into t values(7,7);delete from t where k=7;0:insert into t "
                + "values(7,8);", "0", "0", "1", "1", "C");
        hall = hall();
        Calls.play(hall, "0:begin snapshot;1:begin snapshot;insert into t values(7,7);delete from t where k=7;commit;"
                + "0:insert into t values(7,8);", "0", "0", "1", "1", "0", "1");
    }

    // "check: its test is FALSE (RULE)"
    private static void checksThatAreFalse() {
        Snapshothall hall = new Snapshothall();
        Calls.done(hall, "create table t(k int,a int,w word,primary(k),check(a between 1 and 3),check(w in('a','b')or k>5));");
        Calls.play(hall, "insert into t values(1,0,'a');insert into t values(1,1,'a');insert into t values(2,3,'b');"
                + "insert into t values(3,4,'b');insert into t values(3,null,null);insert into t values(4,2,'c');"
                + "insert into t values(6,2,'c');insert into t values(null,9,null);insert into t values(7,9,'c');"
                + "update t set a=a+1;update t set k=k-1 where k=6;", "R1", "1", "1", "R1", "1", "R2", "1", "R0", "R1", "R1",
                "R2");
        // By an UNKNOWN it stays, also where NULL comes of a division by 0.
        Calls.play(hall, "create table u(k int,primary(k),check(1/k>0 and k<5));insert into u values(0);insert into u values(1);"
                + "insert into u values(2);insert into u values(9);", "0", "1", "1", "R11", "R11");
    }

    // "refer (if its value is not NULL): no version of the other table with this key is seen now (RULE)"
    private static void refersToOneSeen() {
        Snapshothall hall = hall();
        Calls.done(hall, "create table u(k int,t int,primary(k),refer(t)to t);");
        Calls.play(hall, "insert into u values(1,1),(2,null),(3,3);insert into u values(4,4);insert into u values(4,0);"
                + "update u set t=2;update u set t=t+2;update u set t=null;begin;insert into t values(4,4);insert into u "
                + "values(4,4);rollback;insert into u values(4,4);", "3", "R11", "R11", "3", "R11", "3", "0", "1", "1", "0", "R11");
        // One that another transaction made, open or behind the snapshot, is not seen.
        Calls.play(hall, "0:begin snapshot;1:begin;insert into t values(5,5);0:insert into u values(5,5);1:commit;0:insert into u "
                + "values(5,5);rollback;insert into u values(5,5);", "0", "0", "1", "R11", "0", "R11", "0", "1");
    }

    // "or one that is seen has an ender (CONFLICT; it is another transaction)"
    private static void refersToOneWithAnEnder() {
        for (String end : new String[] {"", "1:commit;"}) {
            Snapshothall hall = hall();
            Calls.done(hall, "create table u(k int,t int,primary(k),refer(t)to t);0:begin snapshot;1:begin;delete from t where "
                    + "k=1;" + end);
            Calls.play(hall, "0:insert into u values(1,2);insert into u values(2,1);", "1", "C");
        }
        Snapshothall hall = hall();
        Calls.done(hall, "create table u(k int,t int,primary(k),refer(t)to t);0:begin snapshot;1:begin;update t set a=0 where "
                + "k=1;rollback;");
        Calls.play(hall, "0:insert into u values(2,1);", "1");
        // What it ended itself is not seen.
        Calls.play(hall, "delete from t where k=2;insert into u values(3,2);", "1", "R11");
    }

    private static void refersToItself() {
        Snapshothall hall = new Snapshothall();
        Calls.done(hall, "create table t(k int,t int,primary(k),refer(t)to t);");
        Calls.play(hall, "insert into t values(1,1);insert into t values(2,3),(3,2);insert into t values(4,5);update t set t=k;"
                + "update t set k=k+10;update t set k=k+10,t=t+10;delete from t where k=11;delete from t;", "1", "2", "R1", "3",
                "R1", "3", "1", "2");
    }

    // "for each version that was ended, ... whose key no version of its table that is seen now has: ... a version is seen
    // now that refers to this key (RULE)"
    private static void endedKeysThatAreReferredTo() {
        Snapshothall hall = hall();
        Calls.done(hall, "create table u(k int,t int,primary(k),refer(t)to t);insert into u values(1,1),(2,2),(3,null);");
        Calls.play(hall, "delete from t where k=1;delete from t where k=3;delete from t;update t set k=9 where k=2;"
                + "update t set k=1 where k=2;", "R11", "1", "R11", "R11", "R0");
        Calls.play(hall, "update u set t=null where k=1;delete from t where k=1;delete from u where k=2;delete from t;",
                "1", "1", "1", "1");
    }

    // A key that some version has that is seen now is not looked at.
    private static void keysThatARowHasNow() {
        Snapshothall hall = hall();
        Calls.done(hall, "create table u(k int,t int,primary(k),refer(t)to t);insert into u values(1,1),(2,2),(3,3);");
        Calls.play(hall, "update t set a=0;update t set k=4-k;select*from t;update t set k=k+1;", "3", "3", "[1,0;2,0;3,0]",
                "R11");
    }

    // "or there is one that it does not see and has not ended itself, that is not DEAD, and whose ender, if any, has not
    // committed (CONFLICT)"
    private static void referringRowsThatAreNotSeen() {
        Snapshothall hall = hall();
        Calls.done(hall, "create table u(k int,t int,primary(k),refer(t)to t);insert into u values(9,3);");
        Calls.play(hall, "0:begin snapshot;1:begin;insert into u values(1,1);0:delete from t where k=2;delete from t where k=1;",
                "0", "0", "1", "1", "C");
        Calls.play(hall, "1:commit;0:begin snapshot;delete from t where k=1;rollback;", "0", "0", "R11", "0");
        // One that committed behind the snapshot.
        Calls.play(hall, "0:begin snapshot;1:insert into u values(2,2);0:delete from t where k=2;", "0", "1", "C");
        // DEAD ones, and those that one which committed has ended, do not count.
        Calls.play(hall, "1:delete from u where k<9;0:begin snapshot;1:begin;insert into u values(3,1);rollback;0:delete from t "
                + "where k=1;1:insert into u values(4,2);delete from u where k=4;0:delete from t where k=2;commit;",
                "2", "0", "0", "1", "0", "1", "1", "1", "1", "0");
        // One that is seen while another one, which is open, has ended it, is seen.
        Calls.play(hall, "1:begin;delete from u;0:delete from t;1:commit;0:delete from t;", "0", "1", "R11", "0", "1");
    }

    // "then its rules, in their order"
    private static void rulesInTheirOrder() {
        Snapshothall hall = new Snapshothall();
        Calls.done(hall, "create table o(k int,primary(k));create table t(k int,a int,refer(a)to o,check(k<9),unique(a),"
                + "check(a<5),primary(k),check(k<>7));insert into o values(1),(2),(3),(8);insert into t values(1,1);");
        Calls.play(hall, "insert into t values(1,1);insert into t values(9,7);insert into t values(9,2);insert into t values(7,8);"
                + "insert into t values(1,2);insert into t values(7,2);insert into t values(2,2);insert into t values(null,null);",
                "R12", "R10", "R11", "R13", "R14", "R15", "1", "R14");
    }

    // "for each version made, in the order in which they were made: ... Then for each version that was ended"
    private static void versionsMadeAheadOfVersionsEnded() {
        Snapshothall hall = hall();
        Calls.done(hall, "create table u(k int,t int,primary(k),refer(t)to t,check(t<>2));insert into u values(1,1);");
        Calls.play(hall, "insert into u values(5,2),(null,3);insert into u values(null,3),(5,2);update t set k=null where k=1;"
                + "update t set k=2 where k=1;update t set k=5 where k=1;", "R12", "R10", "R0", "R0", "R11");
    }

    // "for each table, by number, and each of its rules refer to this table, in their order"
    private static void tablesByNumberAndRulesInOrder() {
        Snapshothall hall = hall();
        Calls.done(hall, "create table a(k int,t int,u int,primary(k),refer(u)to t,refer(t)to t);create table b(k int,"
                + "refer(k)to t,primary(k));insert into a values(1,1,3),(2,2,2);insert into b values(1),(3);");
        Calls.play(hall, "delete from t where k=1;delete from t where k=2;delete from t where k=3;delete from t;", "R12", "R11",
                "R11", "R12");
        Calls.play(hall, "update a set u=null,t=null;delete from t where k=1;delete from t where k=2;", "2", "R20", "1");
        // Versions that were ended come in the order of keys.
        Calls.play(hall, "insert into t values(2,2);update a set u=2 where k=1;delete from t;", "1", "1", "R20");
        Calls.play(hall, "delete from b where k=1;delete from t;", "1", "R11");
    }

    // "its number is 10 times the table plus the rule (9 for not null)"
    private static void numbersOfRules() {
        Snapshothall hall = new Snapshothall();
        for (int i = 0; i < 11; i++) {
            Calls.done(hall, "create table x(k int,primary(k));drop table x;");
        }
        Calls.done(hall, "create table x(k int,a int not null,check(a>0),primary(k));");
        Calls.play(hall, "insert into x values(1,null);insert into x values(1,0);insert into x values(null,1);", "R119", "R110",
                "R111");
        Calls.due("place", hall.result(2, 3), 55);
        Calls.due("the number of not null", hall.result(0, 5), 119);
    }

    private static void rulesOfRefusedStatementsLeaveTrees() {
        Snapshothall hall = hall();
        Calls.done(hall, "create index i on t(a);insert into t values(9,5),(8,6),(7,null),(6,1);begin snapshot;");
        Calls.leaves(hall, "update t set a=a+1,k=k-5 where k>5;", "R0");
        Calls.leaves(hall, "insert into t values(20,20),(21,21),(22,22),(23,23),(24,24),(25,25),(1,1);", "R0");
        Calls.leaves(hall, "insert into t values(20,20),(21,21),(22,22),(23,23),(24,24),(25,25),(null,1);", "R0");
        Calls.play(hall, "update t set a=a+1;commit;", "7", "0");
        Calls.due("errors", hall.errors(), 0);
    }
}
