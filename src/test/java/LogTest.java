/** Promises 25 to 29, as section 12 tells them: the fuse, writes, isDown, restart, checkpoint. */
public final class LogTest {
    public static void main(String[] args) {
        writes();
        fuses();
        falls();
        schema();
        checkpoints();
        Calls.end("LogTest");
    }

    /** A hall with t(k, a) of (1,10), (2,20): 12 + 12 cells were written. */
    private static Snapshothall hall() {
        Snapshothall hall = new Snapshothall();
        Calls.play(hall, "create table t(k int,a int,primary(k));insert into t values(1,10),(2,20);", "0", "2");
        Calls.due("writes", hall.writes(), 24);
        return hall;
    }

    private static void writes(Snapshothall hall, String script, int want) {
        int before = hall.writes();
        Calls.type(hall, script);
        hall.run();
        Calls.due("cells of " + script, hall.writes() - before, want);
    }

    private static void writes() {
        Snapshothall hall = hall();
        writes(hall, "update t set a=11 where k=1;", 10);
        writes(hall, "update t set a=11;", 16);
        writes(hall, "delete from t where k=1;", 6);
        writes(hall, "delete from t where k=1;", 0);
        writes(hall, "select*from t;explain select*from t;vacuum;analyze;", 0);
        writes(hall, "insert into t values(2,2);insert into t select*from t where k>9;", 0);
        writes(hall, "begin;insert into t values(5,5);delete from t where k=5;", 0);
        writes(hall, "save p;insert into t values(6,6);update t set a=0;rollback to p;commit;", 10);
        writes(hall, "begin;insert into t values(6,6);rollback;", 0);
        writes(hall, "begin snapshot;insert into t values(6,6);vacuum;commit;", 8);
        writes(hall, "begin;save p;insert into t values(7,7);rollback to p;commit;begin;commit;", 0);
        writes(hall, "create index i on t(a);", 12);
        writes(hall, "create view v as select*from t;drop view v;create table u(k int,primary(k));drop table u;", 48);
        writes(hall, "drop index i;drop index i;", 12);
    }

    private static void fuses() {
        Snapshothall hall = hall();
        Calls.due("fuse before", hall.setFuse(20, false), 0);
        Calls.play(hall, "insert into t values(3,30);select*from t;", "1", "[1,10;2,20;3,30]");
        Calls.due("fuse left", hall.setFuse(100000, true), 12);
        Calls.due("fuse left", hall.setFuse(0, false), 100000);
        Calls.due("fuse left", hall.setFuse(1, false), 0);
        Calls.refuses("fuse -1", IllegalArgumentException.class, () -> hall.setFuse(-1, false));
        Calls.refuses("fuse 100001", IllegalArgumentException.class, () -> hall.setFuse(100001, true));
        Calls.due("fuse left behind exceptions", hall.setFuse(9, false), 1);
        Calls.play(hall, "insert into t values(4,40);", "1");
        Calls.due("fuse left", hall.setFuse(0, true), 1);
        Calls.due("isDown", hall.isDown(), false);
        Calls.refuses("restart", IllegalStateException.class, hall::restart);
    }

    private static void falls() {
        // Ahead of the last cell: the commit has not happened, and what stands open goes, too.
        Snapshothall hall = hall();
        Calls.play(hall, "1:begin;insert into t values(8,8);save p;open c for select*from t;", "0", "1", "0", "0");
        hall.setFuse(8, false);
        Calls.play(hall, "0:insert into t values(3,30);select*from t;select x from y;1:commit;", "P", "P", "P", "P");
        Calls.due("place of POWER", hall.result(2, 3), 43);
        Calls.due("number of POWER", hall.result(0, 2), 0);
        Calls.due("isDown", hall.isDown(), true);
        Calls.due("writes", hall.writes(), 31);
        Calls.due("fuse is gone", hall.setFuse(0, false), 0);
        Calls.due("dead", hall.table(0, 3), 2);
        Calls.due("its versions are dead", hall.version(0, 3, 2), 1);
        Calls.due("entries", hall.index(0, 2), 4);
        Calls.due("rolled back", hall.transaction(3, 0), 2);
        Calls.due("stamp", hall.transaction(3, 3), -1);
        Calls.due("moment of commit", hall.transaction(3, 5), -1);
        Calls.due("open one rolled back", hall.transaction(2, 0), 2);
        Calls.due("session", hall.session(1, 0), -1);
        Calls.due("saves", hall.session(1, 1), 0);
        Calls.due("cursors", hall.session(1, 2), 0);
        Calls.due("clock", hall.clock(), 2);
        Calls.due("transactions", hall.transactions(), 4);
        Calls.refuses("checkpoint", IllegalStateException.class, hall::checkpoint);
        Calls.refuses("isSerial", IllegalStateException.class, hall::isSerial);
        Calls.due("errors", hall.errors(), 0);
        Calls.due("restart", hall.restart(), 2);
        Calls.due("isDown", hall.isDown(), false);
        Calls.refuses("restart twice", IllegalStateException.class, hall::restart);
        Calls.play(hall, "select*from t;commit;insert into t values(3,30);", "[1,10;2,20]", "S", "1");
        Calls.due("clock", hall.clock(), 3);
        Calls.due("moment", hall.transaction(5, 4), 8);
        behind();
        inTransaction();
    }

    private static void behind() {
        // Behind the last cell: the commit has happened all the same.
        Snapshothall hall = hall();
        Calls.play(hall, "update t set a=11 where k=1;begin;delete from t where k=2;", "1", "0", "1");
        hall.setFuse(8, true);
        Calls.play(hall, "2:insert into t values(3,30);", "P");
        Calls.due("writes", hall.writes(), 42);
        Calls.due("committed", hall.transaction(4, 0), 1);
        Calls.due("stamp", hall.transaction(4, 3), 4);
        Calls.due("open one", hall.transaction(3, 0), 2);
        Calls.due("ender of what it ended", hall.version(0, 1, 1), -1);
        Calls.due("versions ahead of restart", hall.table(0, 2), 4);
        Calls.due("restart", hall.restart(), 3);
        Calls.play(hall, "select*from t;analyze;", "[1,11;2,20;3,30]", "3");
        int[] places = {1, 0, 2};
        for (int i = 0; i < 3; i++) {
            Calls.due("entryAt", hall.entryAt(0, i), places[i]);
        }
        Calls.due("order tells it", hall.order(3), 4);
        Calls.due("isSerial", hall.isSerial(), true);
        // One cell less, or behind one that is not the last: not whole.
        hall = hall();
        hall.setFuse(7, true);
        Calls.play(hall, "insert into t values(3,30);", "P");
        Calls.due("writes", hall.writes(), 31);
        Calls.due("restart", hall.restart(), 2);
        hall.setFuse(1, false);
        Calls.play(hall, "insert into t values(3,30);", "P");
        Calls.due("writes", hall.writes(), 31);
        Calls.due("restart", hall.restart(), 2);
    }

    private static void inTransaction() {
        Snapshothall hall = hall();
        Calls.play(hall, "begin;update t set a=0;insert into t values(3,3);3:begin snapshot;0:select*from t;",
                "0", "2", "1", "0", "[1,0;2,0;3,3]");
        hall.setFuse(20, false);
        Calls.play(hall, "commit;3:select*from t;", "P", "P");
        Calls.due("rolled back", hall.transaction(2, 0), 2);
        Calls.due("session", hall.session(0, 0), -1);
        Calls.due("other session", hall.session(3, 0), -1);
        Calls.due("restart", hall.restart(), 2);
        Calls.play(hall, "begin;update t set a=0;insert into t values(3,3);", "0", "2", "1");
        hall.setFuse(20, true);
        Calls.play(hall, "rollback;begin;update t set a=0;commit;", "0", "0", "2", "0");
        Calls.due("fuse left", hall.setFuse(0, true), 4);
    }

    private static void schema() {
        Snapshothall hall = hall();
        hall.setFuse(12, false);
        Calls.play(hall, "create table u(k int,primary(k));", "P");
        Calls.due("no table", hall.tableOf(Calls.word("u")), -1);
        Calls.due("transaction", hall.transaction(2, 0), 2);
        Calls.due("restart", hall.restart(), 2);
        hall.setFuse(12, true);
        Calls.play(hall, "create table u(k int,primary(k));", "P");
        Calls.due("the table", hall.tableOf(Calls.word("u")), 1);
        Calls.due("clock", hall.clock(), 3);
        hall.restart();
        hall.setFuse(1, true);
        Calls.play(hall, "drop table u;", "P");
        hall.restart();
        Calls.due("the table", hall.tableOf(Calls.word("u")), 1);
        hall.setFuse(12, true);
        Calls.play(hall, "drop table u;select*from u;", "P", "P");
        Calls.due("no table", hall.tableOf(Calls.word("u")), -1);
        hall.restart();
        Calls.play(hall, "create table u(k int,primary(k));", "0");
        Calls.due("the next number", hall.tableOf(Calls.word("u")), 2);
        hall.setFuse(5, true);
        Calls.play(hall, "create view v as select*from t;", "P");
        hall.restart();
        hall.setFuse(5, true);
        Calls.play(hall, "create index i on t(a);", "P");
        hall.restart();
        Calls.play(hall, "drop view ^v;drop index ^i;create index i on t(a);", "N", "N", "0");
        Calls.due("the number of the index", hall.indexOf(0, 1), 3);
    }

    private static void checkpoints() {
        Snapshothall hall = new Snapshothall();
        Calls.due("checkpoint of nothing", hall.checkpoint(), 6);
        Calls.due("writes", hall.writes(), 6);
        Snapshothall other = hall();
        Calls.play(other, "update t set a=11 where k=1;create table u(k int,primary(k));create index i on t(a);"
                + "create view v as select*from t;insert into u values(1);begin;delete from u;", "1", "0", "0", "0", "1",
                "0", "1");
        Calls.refuses("checkpoint", IllegalStateException.class, other::checkpoint);
        Calls.play(other, "rollback;", "0");
        int before = other.writes();
        Calls.due("checkpoint", other.checkpoint(), 6 + 2 * 3 + 2 + 4 * 12);
        Calls.due("writes", other.writes(), before + 62);
        other.setFuse(62, false);
        Calls.due("checkpoint", other.checkpoint(), -1);
        Calls.due("writes", other.writes(), before + 62 + 61);
        Calls.due("isDown", other.isDown(), true);
        Calls.due("versions", other.table(0, 2), 3);
        Calls.due("restart", other.restart(), 3);
        other.setFuse(62, true);
        Calls.due("checkpoint", other.checkpoint(), -1);
        Calls.due("writes", other.writes(), before + 62 + 61 + 62);
        Calls.due("restart", other.restart(), 3);
        other.setFuse(63, false);
        Calls.due("checkpoint", other.checkpoint(), 62);
        Calls.due("fuse left", other.setFuse(0, false), 1);
        Calls.play(other, "select*from t;select*from u;", "[1,11;2,20]", "[1]");
    }
}
