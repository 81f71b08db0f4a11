/** The bounds of section 7, and of promises 11 to 13 and 16: transactions, clock, moments, what is seen, saves, cursors. */
public final class SnapshotEdgeTest {
    public static void main(String[] args) {
        transactionsAreNumberedFromZero();
        serializableAndSnapshot();
        ownTransactions();
        refusedOnesOfTheirOwn();
        createAndDropAreTransactions();
        whatIsNoTransaction();
        theClockGoesByChanges();
        changesTakenBackDoNotCount();
        stampsOfOthers();
        snapshots();
        momentsOfBeginsAndCommits();
        stampsAtTheSnapshot();
        whatItMadeAndEndedItself();
        seenAsTheStatementBegins();
        rollbackOfATransaction();
        rollbackToASave();
        savesInPlaceOfEarlierOnes();
        rollbackForgetsLaterSaves();
        cursorsKeepTheirAnswer();
        fetchAtItsBounds();
        savesAndCursorsGoAtTheEnd();
        tellingOfSessions();
        tellingOfTransactions();
        Calls.end("SnapshotEdgeTest");
    }

    private static Snapshothall hall() {
        Snapshothall hall = new Snapshothall();
        Calls.done(hall, "create table t(k int,a int,primary(k));insert into t values(1,10),(2,20);");
        return hall;
    }

    private static void transaction(Snapshothall hall, int number, int... due) {
        for (int what = 0; what < due.length; what++) {
            Calls.due("transaction(" + number + ", " + what + ")", hall.transaction(number, what), due[what]);
        }
    }

    // "Transactions are numbered from 0 as they begin, 200 at most."
    private static void transactionsAreNumberedFromZero() {
        Snapshothall hall = new Snapshothall();
        Calls.due("transactions", hall.transactions(), 0);
        Calls.refuses("transaction 0 of none", IndexOutOfBoundsException.class, () -> hall.transaction(0, 0));
        Calls.done(hall, "begin;");
        Calls.due("transactions", hall.transactions(), 1);
        Calls.due("of session 0", hall.session(0, 0), 0);
        Calls.done(hall, "2:begin;1:begin snapshot;0:commit;begin;");
        Calls.due("of session 2", hall.session(2, 0), 1);
        Calls.due("of session 1", hall.session(1, 0), 2);
        Calls.due("of session 0", hall.session(0, 0), 3);
        Calls.due("of session 3", hall.session(3, 0), Snapshothall.NONE);
        Calls.due("transactions", hall.transactions(), 4);
    }

    // "One begins by begin, SERIALIZABLE, or by begin snapshot, SNAPSHOT"
    private static void serializableAndSnapshot() {
        Snapshothall hall = hall();
        Calls.done(hall, "0:begin;1:begin snapshot;2:select*from t;");
        Calls.due("begin", hall.transaction(2, 1), 1);
        Calls.due("begin snapshot", hall.transaction(3, 1), 0);
        Calls.due("a query of its own", hall.transaction(4, 1), 1);
        Calls.due("a create", hall.transaction(0, 1), 1);
    }

    // "An insert, update, delete or query of a session without one is a SERIALIZABLE transaction of its own"
    private static void ownTransactions() {
        Snapshothall hall = hall();
        Calls.done(hall, "3:insert into t values(3,3);update t set a=1;delete from t where k=3;select*from t;");
        Calls.due("transactions", hall.transactions(), 6);
        for (int t = 2; t < 6; t++) {
            Calls.due("state", hall.transaction(t, 0), Snapshothall.COMMITTED);
            Calls.due("SERIALIZABLE", hall.transaction(t, 1), 1);
            Calls.due("moment of begin", hall.transaction(t, 4), 2 * t);
            Calls.due("moment of commit", hall.transaction(t, 5), 2 * t + 1);
        }
        Calls.due("session", hall.session(3, 0), Snapshothall.NONE);
        // In a transaction they are none of their own.
        Calls.done(hall, "begin;select*from t;delete from t;commit;");
        Calls.due("transactions", hall.transactions(), 7);
    }

    // "(and is rolled back if it is refused; refused as NAMES, STATE or FULL, or while the power is off, none has begun)"
    private static void refusedOnesOfTheirOwn() {
        Snapshothall hall = hall();
        Calls.play(hall, "insert into t values(1,1);", "R0");
        transaction(hall, 2, 2, 1, 2, -1, 4, -1, 1, 0, 0);
        Calls.due("transactions", hall.transactions(), 3);
        Calls.leaves(hall, "insert into t values(^x,1);", "N");
        Calls.leaves(hall, "open c for select*from t;", "S");
        Calls.leaves(hall, "select*from t,t as b,t as c where exists(select*from t,t as b,t as c where exists(select*from t,"
                + "t as b,t as c where exists(select*from t,t as b,t as c)));", "F");
        Calls.play(hall, "0:begin snapshot;1:update t set a=5;2:delete from t;0:delete from t where k=1;", "0", "2", "2",
                "C");
        Calls.due("transactions", hall.transactions(), 6);
        hall.setFuse(1, false);
        Calls.play(hall, "insert into t values(7,7);", "P");
        Calls.due("rolled back by POWER", hall.transaction(6, 0), Snapshothall.ROLLED_BACK);
        Calls.leaves(hall, "insert into t values(7,7);", "P");
        Calls.leaves(hall, "select*from t;", "P");
        Calls.due("transactions", hall.transactions(), 7);
    }

    // "create and drop are SERIALIZABLE transactions of their own as well"
    private static void createAndDropAreTransactions() {
        Snapshothall hall = new Snapshothall();
        String[] statements = {"create table t(k int,primary(k));", "create index i on t(k);", "create view v as select*from t;",
            "drop index i;", "drop view v;", "drop table t;"};
        for (int i = 0; i < statements.length; i++) {
            Calls.play(hall, statements[i], "0");
            transaction(hall, i, 1, 1, i, i + 1, 2 * i, 2 * i + 1, 0, 0, 0);
            Calls.due("clock", hall.clock(), i + 1);
        }
        Calls.leaves(hall, "drop table ^t;", "N");
        Calls.due("transactions", hall.transactions(), 6);
    }

    // "explain, vacuum and analyze are none."
    private static void whatIsNoTransaction() {
        Snapshothall hall = hall();
        Calls.done(hall, "explain select*from t;vacuum;analyze;");
        Calls.due("transactions", hall.transactions(), 2);
        Calls.due("clock", hall.clock(), 2);
        Calls.play(hall, "commit;save p;rollback;fetch c 1;", "S", "S", "S", "S");
        Calls.due("transactions", hall.transactions(), 2);
        Calls.done(hall, "begin;");
        transaction(hall, 2, 0, 1, 2, -1, 4, -1);
    }

    // "The CLOCK is 0 at first. A transaction that commits and has made or ended a version ..., or is a create or drop,
    // makes it 1 more"
    private static void theClockGoesByChanges() {
        Snapshothall hall = new Snapshothall();
        Calls.due("clock", hall.clock(), 0);
        String[] statements = {"begin;commit;", "create table t(k int,primary(k));", "select*from t;", "delete from t;",
            "insert into t values(1);", "insert into t select k+1 from t where k=9;", "update t set k=1;",
            "update t set k=5 where k=9;", "delete from t where k=9;", "delete from t;", "begin;insert into t values(3);commit;",
            "begin;insert into t values(4);rollback;", "begin;select*from t;commit;", "insert into t values(3);",
            "begin;insert into t values(7);delete from t where k=7;commit;", "begin snapshot;delete from t;commit;",
            "create index i on t(k);", "drop table t;", "drop table t;", "vacuum;analyze;"};
        int[] due = {0, 1, 1, 1, 2, 2, 3, 3, 3, 4, 5, 5, 5, 5, 6, 7, 8, 9, 9, 9};
        for (int i = 0; i < due.length; i++) {
            Calls.run(hall, statements[i]);
            Calls.due("clock behind " + statements[i], hall.clock(), due[i]);
        }
    }

    // "(and did not take it back)"
    private static void changesTakenBackDoNotCount() {
        Snapshothall hall = hall();
        Calls.done(hall, "begin;save p;insert into t values(3,3);rollback to p;commit;");
        Calls.due("clock", hall.clock(), 2);
        Calls.due("stamp", hall.transaction(2, 3), 2);
        Calls.done(hall, "begin;save p;delete from t;rollback to p;commit;");
        Calls.due("clock", hall.clock(), 2);
        Calls.done(hall, "begin;delete from t where k=1;save p;delete from t;rollback to p;commit;");
        Calls.due("clock", hall.clock(), 3);
        Calls.done(hall, "begin;insert into t values(3,3);save p;insert into t values(4,4);rollback to p;commit;");
        Calls.due("clock", hall.clock(), 4);
        Calls.done(hall, "begin;save p;insert into t values(5,5);delete from t where k=5;rollback to p;vacuum;commit;");
        Calls.due("clock", hall.clock(), 4);
        Calls.play(hall, "begin;insert into t values(3,9);commit;", "0", "R0", "0");
        Calls.due("clock", hall.clock(), 4);
    }

    // "this is its STAMP; the stamp of others is the clock as they commit"
    private static void stampsOfOthers() {
        Snapshothall hall = hall();
        Calls.done(hall, "0:begin;1:begin;2:insert into t values(3,3);0:commit;3:insert into t values(4,4);1:select*from t;"
                + "commit;select*from t;");
        Calls.due("an insert", hall.transaction(4, 3), 3);
        Calls.due("a commit of nothing", hall.transaction(2, 3), 3);
        Calls.due("an insert", hall.transaction(5, 3), 4);
        Calls.due("a commit of a reader", hall.transaction(3, 3), 4);
        Calls.due("a query of its own", hall.transaction(6, 3), 4);
        Calls.done(hall, "begin;rollback;begin;");
        Calls.due("stamp of one rolled back", hall.transaction(7, 3), Snapshothall.NONE);
        Calls.due("stamp of an open one", hall.transaction(8, 3), Snapshothall.NONE);
    }

    // "A transaction has the clock at its begin as its SNAPSHOT."
    private static void snapshots() {
        Snapshothall hall = hall();
        Calls.done(hall, "0:begin;1:insert into t values(3,3);2:begin snapshot;1:delete from t where k=3;3:begin;0:commit;");
        int[] due = {0, 1, 2, 2, 3, 3, 4};
        for (int t = 0; t < due.length; t++) {
            Calls.due("snapshot of " + t, hall.transaction(t, 2), due[t]);
        }
    }

    // "Begins and commits are numbered together by MOMENTS, from 0 on (a transaction of its own has two)."
    private static void momentsOfBeginsAndCommits() {
        Snapshothall hall = hall();
        Calls.play(hall, "0:begin;1:begin;0:commit;2:select*from t;1:rollback;3:insert into t values(1,1);0:begin snapshot;"
                + "commit;", "0", "0", "0", "[1,10;2,20]", "0", "R0", "0", "0");
        int[][] due = {{0, 1}, {2, 3}, {4, 6}, {5, -1}, {7, 8}, {9, -1}, {10, 11}};
        for (int t = 0; t < due.length; t++) {
            Calls.due("begin of " + t, hall.transaction(t, 4), due[t][0]);
            Calls.due("commit of " + t, hall.transaction(t, 5), due[t][1]);
        }
    }

    // "or its maker committed with a stamp that is at most the snapshot; and neither it itself, nor a transaction that
    // committed with such a stamp, is its ender"
    private static void stampsAtTheSnapshot() {
        Snapshothall hall = hall();
        Calls.done(hall, "3:begin;update t set a=11 where k=1;2:insert into t values(3,30);0:begin;3:commit;1:begin snapshot;");
        // The stamp of session 2 is the snapshot of session 0; that of session 3 is one more, the snapshot of session 1.
        Calls.due("stamp below", hall.transaction(3, 3), hall.transaction(4, 2));
        Calls.due("stamp above", hall.transaction(2, 3), hall.transaction(4, 2) + 1);
        Calls.due("stamp at", hall.transaction(2, 3), hall.transaction(5, 2));
        Calls.play(hall, "0:select*from t;1:select*from t;", "[1,10;2,20;3,30]", "[1,11;2,20;3,30]");
        Calls.play(hall, "2:delete from t where k=2;0:select*from t;1:select*from t;2:select*from t;",
                "1", "[1,10;2,20;3,30]", "[1,11;2,20;3,30]", "[1,11;3,30]");
        // What is open, or rolled back, is not seen by others.
        Calls.play(hall, "3:begin;insert into t values(9,9);2:select*from t;3:rollback;2:select*from t;", "0", "1",
                "[1,11;3,30]", "0", "[1,11;3,30]");
    }

    private static void whatItMadeAndEndedItself() {
        Snapshothall hall = hall();
        Calls.play(hall, "begin snapshot;insert into t values(3,30);select*from t;update t set a=31 where k=3;select*from t;"
                + "delete from t where k=3;select*from t;delete from t where k=1;select*from t;1:select*from t;0:commit;"
                + "1:select*from t;", "0", "1", "[1,10;2,20;3,30]", "1", "[1,10;2,20;3,31]", "1", "[1,10;2,20]", "1", "[2,20]",
                "[1,10;2,20]", "0", "[2,20]");
    }

    // "A statement sees what its transaction sees as the statement begins."
    private static void seenAsTheStatementBegins() {
        Snapshothall hall = hall();
        Calls.play(hall, "insert into t select k+2,a from t;select*from t;update t set k=k+4 where k in(select k from t);"
                + "select*from t;insert into t select k+1,(a) from t where not exists(select*from t as x where x.k=t.k+1);"
                + "select k from t;delete from t where exists(select*from t as x where x.k=t.k+1);select k from t;",
                "2", "[1,10;2,20;3,10;4,20]", "4", "[5,10;6,20;7,10;8,20]", "1", "[5;6;7;8;9]", "4", "[9]");
    }

    // "the versions that it made are made by none that counts (they are DEAD), those that it ended have no ender again"
    private static void rollbackOfATransaction() {
        Snapshothall hall = hall();
        Calls.done(hall, "begin;insert into t values(3,30);update t set a=0;delete from t where k=3;");
        int[][] open = {{1, 2, 0}, {1, 2, 0}, {2, 2, 0}, {2, -1, 0}, {2, -1, 0}, {2, 2, 0}};
        int[][] rolledBack = {{1, -1, 0}, {1, -1, 0}, {2, -1, 1}, {2, -1, 1}, {2, -1, 1}, {2, -1, 1}};
        for (int p = 0; p < 6; p++) {
            for (int what = 0; what < 3; what++) {
                Calls.due("open " + p, hall.version(0, p, what), open[p][what]);
            }
        }
        Calls.done(hall, "rollback;");
        for (int p = 0; p < 6; p++) {
            for (int what = 0; what < 3; what++) {
                Calls.due("rolled back " + p, hall.version(0, p, what), rolledBack[p][what]);
            }
        }
        Calls.due("dead", hall.table(0, 3), 4);
        Calls.due("seen", hall.table(0, 4), 2);
        Calls.due("state", hall.transaction(2, 0), Snapshothall.ROLLED_BACK);
        Calls.play(hall, "insert into t values(3,33);select*from t;", "1", "[1,10;2,20;3,33]");
    }

    // "rollback to brings back the versions made and ended since"
    private static void rollbackToASave() {
        Snapshothall hall = hall();
        Calls.done(hall, "begin;save p;update t set a=1 where k=1;save q;update t set a=2 where k=1;insert into t values(3,3);"
                + "rollback to q;");
        int[][] due = {{1, 2, 0}, {1, -1, 0}, {2, -1, 0}, {2, -1, 1}, {2, -1, 1}};
        for (int p = 0; p < 5; p++) {
            for (int what = 0; what < 3; what++) {
                Calls.due("version " + p, hall.version(0, p, what), due[p][what]);
            }
        }
        Calls.play(hall, "select*from t;rollback to p;select*from t;rollback to p;select*from t;commit;",
                "[1,1;2,20]", "0", "[1,10;2,20]", "0", "[1,10;2,20]", "0");
        Calls.due("dead", hall.table(0, 3), 3);
        // A save ahead of all, and one behind all.
        Calls.play(hall, "begin;delete from t;save p;rollback to p;select*from t;commit;select*from t;", "0", "2", "0", "0", "[]",
                "0", "[]");
    }

    // "save remembers where it stands under a name, in place of an earlier save of this name"
    private static void savesInPlaceOfEarlierOnes() {
        Snapshothall hall = hall();
        Calls.play(hall, "begin;save p;delete from t where k=1;save p;delete from t where k=2;rollback to p;select*from t;",
                "0", "0", "1", "0", "1", "0", "[2,20]");
        Calls.due("saves", hall.session(0, 1), 1);
        // The others stay where they stand.
        Snapshothall other = hall();
        Calls.play(other, "begin;save a;delete from t where k=1;save b;delete from t where k=2;save a;insert into t values(3,3);"
                + "save c;insert into t values(4,4);save a;rollback to c;select k from t;rollback to b;select k from t;rollback to a;",
                "0", "0", "1", "0", "1", "0", "1", "0", "1", "0", "0", "[3]", "0", "[2]", "S");
        Calls.play(hall, "rollback to p;select*from t;save p;save p;", "0", "[2,20]", "0", "0");
        Calls.due("saves", hall.session(0, 1), 1);
    }

    // "and forgets the saves made behind that one (it itself stays; so do cursors)"
    private static void rollbackForgetsLaterSaves() {
        Snapshothall hall = hall();
        Calls.play(hall, "begin;save a;save b;save c;rollback to c;rollback to b;rollback to c;rollback to b;rollback to a;"
                + "rollback to b;rollback to a;", "0", "0", "0", "0", "0", "0", "S", "0", "0", "S", "0");
        Calls.due("saves", hall.session(0, 1), 1);
        Calls.play(hall, "save b;open c for select*from t;open d for select k from t;rollback to a;fetch c 1;fetch d 1;",
                "0", "0", "0", "0", "[1,10]", "[1]");
        Calls.due("cursors", hall.session(0, 2), 2);
        // One that was made anew stands behind the others.
        Calls.play(hall, "rollback;begin;save a;save b;save a;rollback to b;rollback to a;", "0", "0", "0", "0", "0", "0",
                "S");
        Calls.play(hall, "save c;save a;rollback to c;rollback to a;", "0", "0", "0", "S");
    }

    // "open keeps the answer of a query, as it is then, as a cursor"
    private static void cursorsKeepTheirAnswer() {
        Snapshothall hall = hall();
        Calls.play(hall, "begin;open c for select a,k,null from t order by 2 down;delete from t;1:vacuum;0:select*from t;"
                + "fetch c 2;", "0", "0", "2", "0", "[]", "[20,2,-;10,1,-]");
        Calls.due("columns of fetch", hall.result(5, 4), 3);
        Calls.play(hall, "open d for select*from t;fetch d 1;", "0", "[]");
        Calls.due("columns of an empty one", hall.result(1, 4), 2);
        Calls.due("number of open", hall.result(0, 2), 0);
        Calls.due("columns of open", hall.result(0, 4), 0);
    }

    // "fetch answers with its next rows, as many as it tells, or what is left"
    private static void fetchAtItsBounds() {
        Snapshothall hall = hall();
        Calls.done(hall, "insert into t values(3,30),(4,40),(5,50);begin;open c for select k from t;");
        Calls.play(hall, "fetch c 0;fetch c 1;fetch c 2;fetch c 0;fetch c 2;fetch c 1;fetch c 0;",
                "[]", "[1]", "[2;3]", "[]", "[4;5]", "[]", "[]");
        Calls.play(hall, "close c;open c for select k from t;fetch c 5;fetch c 1;", "0", "0", "[1;2;3;4;5]", "[]");
        Calls.play(hall, "close c;open c for select k from t;fetch c 6;", "0", "0", "[1;2;3;4;5]");
        Calls.play(hall, "close c;open c for select k from t;fetch c 4;fetch c 999999999;fetch c 999999999;", "0", "0",
                "[1;2;3;4]", "[5]", "[]");
        Calls.due("number of the last fetch", hall.result(4, 2), 0);
    }

    // "At its end a transaction's saves and cursors are gone."
    private static void savesAndCursorsGoAtTheEnd() {
        Snapshothall hall = hall();
        String open = "begin;save p;open c for select*from t;";
        for (String end : new String[] {"commit;", "rollback;"}) {
            Calls.done(hall, open + end);
            Calls.due("saves", hall.session(0, 1), 0);
            Calls.due("cursors", hall.session(0, 2), 0);
            Calls.play(hall, "begin;rollback to p;fetch c 1;rollback;", "0", "S", "S", "0");
        }
        Calls.play(hall, "begin snapshot;save p;open c for select*from t;1:update t set a=0;0:update t set a=1;", "0", "0", "0",
                "2", "C");
        Calls.due("saves", hall.session(0, 1), 0);
        Calls.due("cursors", hall.session(0, 2), 0);
        Calls.done(hall, open);
        hall.setFuse(1, true);
        Calls.play(hall, "1:delete from t;", "P");
        Calls.due("saves", hall.session(0, 1), 0);
        Calls.due("cursors", hall.session(0, 2), 0);
    }

    private static void tellingOfSessions() {
        Snapshothall hall = hall();
        Calls.done(hall, "3:begin;save a;save b;save c;open a for select*from t;");
        int[] due = {2, 3, 1};
        for (int what = 0; what < 3; what++) {
            Calls.due("session(3, " + what + ")", hall.session(3, what), due[what]);
            Calls.due("session(0, " + what + ")", hall.session(0, what), what == 0 ? Snapshothall.NONE : 0);
        }
        Calls.throwsAlone(hall, "session what 3", IllegalArgumentException.class, () -> hall.session(0, 3));
        Calls.throwsAlone(hall, "session what -1", IllegalArgumentException.class, () -> hall.session(3, -1));
        Calls.throwsAlone(hall, "session 4 what 3", IndexOutOfBoundsException.class, () -> hall.session(4, 3));
        Calls.throwsAlone(hall, "session -1 what -1", IndexOutOfBoundsException.class, () -> hall.session(-1, -1));
        Calls.throwsAlone(hall, "the greatest session", IndexOutOfBoundsException.class,
                () -> hall.session(Integer.MAX_VALUE, 0));
        Calls.throwsAlone(hall, "the least session", IndexOutOfBoundsException.class,
                () -> hall.session(Integer.MIN_VALUE, 0));
    }

    private static void tellingOfTransactions() {
        Snapshothall hall = hall();
        Calls.done(hall, "begin;select*from t;");
        transaction(hall, 0, 1, 1, 0, 1, 0, 1, 0, 0, 0);
        transaction(hall, 1, 1, 1, 1, 2, 2, 3, 2, 0, 0);
        transaction(hall, 2, 0, 1, 2, -1, 4, -1, 1, 0, 0);
        for (int number : new int[] {-1, 3, 200, Integer.MAX_VALUE, Integer.MIN_VALUE}) {
            Calls.throwsAlone(hall, "transaction " + number, IndexOutOfBoundsException.class,
                    () -> hall.transaction(number, 0));
            Calls.throwsAlone(hall, "transaction, what " + number, number == 3 ? IndexOutOfBoundsException.class
                    : IllegalArgumentException.class, () -> hall.transaction(number == 3 ? 3 : 0, number));
            Calls.throwsAlone(hall, "both " + number, IndexOutOfBoundsException.class,
                    () -> hall.transaction(number, 9));
        }
        Calls.throwsAlone(hall, "what 9", IllegalArgumentException.class, () -> hall.transaction(2, 9));
        Calls.throwsAlone(hall, "what -1", IllegalArgumentException.class, () -> hall.transaction(0, -1));
    }
}
