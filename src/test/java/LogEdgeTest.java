/** The bounds of section 12, and of promises 25 to 29: cells, the fuse at each of them, cuts, restart, checkpoint. */
public final class LogEdgeTest {
    public static void main(String[] args) {
        cellsOfCommits();
        cellsByColumns();
        cellsOfWhatWasTakenBack();
        cellsOfCreateAndDrop();
        whatWritesNothing();
        fusesAreZeroToAHundredThousand();
        fusesGoByWrittenCells();
        theFuseAtEachCellOfAnInsert();
        theFuseAtEachCellOfACommit();
        theFuseAtEachCellOfAChange();
        theFuseAtEachCellOfACreate();
        theFuseAtEachCellOfADrop();
        theFuseAtEachCellOfACheckpoint();
        cellsOfACheckpoint();
        fusesOfCommitsWithoutARecord();
        statementsBehindAFall();
        transactionsAsThePowerFalls();
        theFuseIsGone();
        restartLeavesWhatCommitted();
        restartMakesNewTrees();
        restartLeavesTheRest();
        aFuseSetWhileThePowerIsOff();
        restartIfThePowerDidNotFall();
        checkpointIfItCannotBe();
        Calls.end("LogEdgeTest");
    }

    /** A hall with t(k, a) of (1,10), (2,20): 12 + 12 cells were written. */
    private static Snapshothall hall() {
        Snapshothall hall = new Snapshothall();
        Calls.done(hall, "create table t(k int,a int,primary(k));insert into t values(1,10),(2,20);");
        Calls.due("writes", hall.writes(), 24);
        return hall;
    }

    private static void cells(Snapshothall hall, String script, int want) {
        int before = hall.writes();
        Calls.run(hall, script);
        Calls.due("cells of " + script, hall.writes() - before, want);
    }

    // "4 cells, and for each version that it made (and did not take back) 2 cells and one for each column, and for each
    // one that it ended 2"
    private static void cellsOfCommits() {
        Snapshothall hall = new Snapshothall();
        Calls.due("writes", hall.writes(), 0);
        hall = hall();
        cells(hall, "insert into t values(3,30);", 8);
        cells(hall, "insert into t values(4,40),(5,50),(6,60);", 16);
        cells(hall, "update t set a=11 where k=1;", 10);
        cells(hall, "update t set a=0;", 4 + 6 * 6);
        cells(hall, "delete from t where k=1;", 6);
        cells(hall, "delete from t where k>4;", 8);
        cells(hall, "begin;insert into t values(7,7);update t set a=8 where k=7;delete from t where k=2;commit;", 4 + 2 * 4 + 2 * 2);
        cells(hall, "begin snapshot;delete from t where k=7;commit;", 6);
        // A version that its own transaction ended is written as made and as ended.
        cells(hall, "begin;insert into t values(9,9);delete from t where k=9;commit;", 10);
        cells(hall, "begin;insert into t values(9,9);delete from t where k=9;vacuum;commit;", 10);
    }

    private static void cellsByColumns() {
        String[] columns = {"a", "b", "c", "d", "e", "f"};
        for (int n = 1; n <= 6; n++) {
            StringBuilder create = new StringBuilder("create table t(");
            StringBuilder values = new StringBuilder();
            for (int i = 0; i < n; i++) {
                create.append(columns[i]).append(" int,");
                values.append(i == 0 ? "" : ",").append(i == 0 ? "1" : "null");
            }
            Snapshothall hall = new Snapshothall();
            Calls.done(hall, create + "primary(a));");
            cells(hall, "insert into t values(" + values + ");", 6 + n);
            Calls.due("checkpoint", hall.checkpoint(), 6 + 1 + n + 12);
        }
    }

    private static void cellsOfWhatWasTakenBack() {
        Snapshothall hall = hall();
        cells(hall, "begin;save p;insert into t values(3,3);update t set a=0;rollback to p;commit;", 0);
        cells(hall, "begin;insert into t values(3,3);save p;insert into t values(4,4);delete from t;rollback to p;commit;", 8);
        cells(hall, "begin;delete from t where k=3;save p;insert into t values(4,4);rollback to p;commit;", 6);
        cells(hall, "begin;insert into t values(3,3);delete from t;rollback;", 0);
        cells(hall, "insert into t values(1,1);update t set k=1;", 0);
    }

    // "a create or drop has 12"
    private static void cellsOfCreateAndDrop() {
        Snapshothall hall = new Snapshothall();
        cells(hall, "create table t(a int,b int,c int,primary(a),unique(b));", 12);
        cells(hall, "create index i on t(a,b,c);", 12);
        cells(hall, "create view v as select*from t;", 12);
        cells(hall, "drop view v;", 12);
        cells(hall, "drop index i;", 12);
        Calls.done(hall, "insert into t values(1,1,1);");
        cells(hall, "create index i on t(c);", 12);
        cells(hall, "drop table t;", 12);
        cells(hall, "drop table t;create table t(k int);", 0);
    }

    // "A transaction that gets a stamp of its own writes a record"
    private static void whatWritesNothing() {
        Snapshothall hall = hall();
        cells(hall, "select*from t;begin;select*from t;commit;begin snapshot;rollback;delete from t where k=9;update t set a=1 "
                + "where k=9;insert into t select*from t where k=9;", 0);
        cells(hall, "explain select*from t;vacuum;analyze;begin;open c for select*from t;fetch c 1;save p;commit;", 0);
        cells(hall, "begin;insert into t values(3,3);", 0);
        cells(hall, "commit;", 8);
    }

    // "cells: 1 to 100000; 0 takes the fuse away"; "Returns how many cells were left of the fuse before; 0 without one"
    private static void fusesAreZeroToAHundredThousand() {
        Snapshothall hall = hall();
        Calls.due("none before", hall.setFuse(100000, true), 0);
        Calls.throwsAlone(hall, "a fuse of 100001", IllegalArgumentException.class, () -> hall.setFuse(100001, false));
        Calls.throwsAlone(hall, "a fuse of -1", IllegalArgumentException.class, () -> hall.setFuse(-1, false));
        Calls.throwsAlone(hall, "the least fuse", IllegalArgumentException.class,
                () -> hall.setFuse(Integer.MIN_VALUE, false));
        Calls.throwsAlone(hall, "the greatest fuse", IllegalArgumentException.class,
                () -> hall.setFuse(Integer.MAX_VALUE, true));
        Calls.due("left behind exceptions", hall.setFuse(1, false), 100000);
        Calls.due("in place of one that was set", hall.setFuse(99999, false), 1);
        Calls.due("taken away", hall.setFuse(0, true), 99999);
        Calls.due("none", hall.setFuse(0, false), 0);
        Calls.done(hall, "delete from t;");
        Calls.due("the power is on", hall.isDown(), false);
    }

    private static void fusesGoByWrittenCells() {
        Snapshothall hall = hall();
        hall.setFuse(100, false);
        Calls.play(hall, "insert into t values(3,3);select*from t where k=3;insert into t values(3,3);", "1", "[3,3]", "R0");
        Calls.due("left", hall.setFuse(92, false), 92);
        Calls.done(hall, "create view v as select*from t;");
        Calls.due("left", hall.setFuse(80, false), 80);
        Calls.due("checkpoint", hall.checkpoint(), 6 + 9 + 24);
        Calls.due("left", hall.setFuse(0, false), 41);
    }

    /**
     * Sets a fuse to each number of cells up to one more than a commit has, both ways, and runs the script, the last
     * statement of which commits: it is refused as POWER unless its cells are fewer, and has happened if all of them
     * were written.
     */
    private static void fuses(String before, String script, int cells, String rowsBefore, String rowsBehind) {
        for (int fuse = 1; fuse <= cells + 1; fuse++) {
            for (int behind = 0; behind < 2; behind++) {
                Snapshothall hall = hall();
                Calls.run(hall, before);
                int writes = hall.writes();
                int clock = hall.clock();
                Calls.due("no fuse before", hall.setFuse(fuse, behind == 1), 0);
                Calls.run(hall, script);
                int last = hall.results() - 1;
                boolean hasFallen = fuse <= cells;
                boolean isWhole = fuse > cells || fuse == cells && behind == 1;
                String what = script + " with a fuse of " + fuse + (behind == 1 ? " behind" : "");
                Calls.due("refusal of " + what, hall.result(last, 1), hasFallen ? Snapshothall.POWER : 0);
                Calls.due("isDown by " + what, hall.isDown(), hasFallen);
                Calls.due("writes of " + what, hall.writes() - writes, hasFallen ? fuse - 1 + behind : cells);
                Calls.due("clock behind " + what, hall.clock(), isWhole ? clock + 1 : clock);
                int transaction = hall.transactions() - 1;
                Calls.due("state by " + what, hall.transaction(transaction, 0),
                        isWhole ? Snapshothall.COMMITTED : Snapshothall.ROLLED_BACK);
                Calls.due("stamp by " + what, hall.transaction(transaction, 3), isWhole ? clock + 1 : Snapshothall.NONE);
                Calls.due("moment by " + what, hall.transaction(transaction, 5) != Snapshothall.NONE, isWhole);
                Calls.due("errors by " + what, hall.errors(), 0);
                Calls.due("fuse left by " + what, hall.setFuse(0, false), hasFallen ? 0 : 1);
                if (hasFallen) {
                    hall.restart();
                }
                Calls.due("rows behind " + what, Calls.tell(hall, "select*from t;"), isWhole ? rowsBehind : rowsBefore);
                Calls.due("errors behind " + what, hall.errors(), 0);
            }
        }
    }

    // "with the n-th cell from then on the power falls, ahead of writing it, or, if it is told so, behind it"
    private static void theFuseAtEachCellOfAnInsert() {
        fuses("", "insert into t values(3,30);", 8, "[1,10;2,20]", "[1,10;2,20;3,30]");
        fuses("", "insert into t select k+2,a from t;", 12, "[1,10;2,20]", "[1,10;2,20;3,10;4,20]");
    }

    private static void theFuseAtEachCellOfACommit() {
        fuses("begin;insert into t values(3,30);delete from t where k=1;", "commit;", 10, "[1,10;2,20]", "[2,20;3,30]");
        fuses("begin snapshot;save p;insert into t values(3,30);rollback to p;update t set a=0 where k=1;", "select*from t;commit;",
                10, "[1,10;2,20]", "[1,0;2,20]");
    }

    private static void theFuseAtEachCellOfAChange() {
        fuses("", "update t set a=a+1;", 16, "[1,10;2,20]", "[1,11;2,21]");
        fuses("", "delete from t where k=2;", 6, "[1,10;2,20]", "[1,10]");
    }

    // "(A create or drop whose record is not whole has not happened.)"
    private static void theFuseAtEachCellOfACreate() {
        fuses("", "create view v as select*from t;", 12, "[1,10;2,20]", "[1,10;2,20]");
        for (int fuse = 1; fuse <= 13; fuse++) {
            for (int behind = 0; behind < 2; behind++) {
                boolean isWhole = fuse > 12 || fuse == 12 && behind == 1;
                Snapshothall hall = hall();
                hall.setFuse(fuse, behind == 1);
                Calls.run(hall, "create table u(k int,primary(k));");
                Calls.due("u with a fuse of " + fuse, hall.tableOf(Calls.word("u")), isWhole ? 1 : Snapshothall.NONE);
                Calls.due("its index", Calls.hasIndex(hall, 1), isWhole);
                hall.setFuse(0, false);
                if (hall.isDown()) {
                    hall.restart();
                }
                Calls.play(hall, "create table x(k int,primary(k));", "0");
                Calls.due("the next number", hall.tableOf(Calls.word("x")), isWhole ? 2 : 1);
                hall = hall();
                hall.setFuse(fuse, behind == 1);
                Calls.run(hall, "create index i on t(a);");
                Calls.due("i with a fuse of " + fuse, hall.indexOf(0, 1), isWhole ? 1 : Snapshothall.NONE);
                if (hall.isDown()) {
                    hall.restart();
                }
                Calls.due("i behind restart", hall.indexOf(0, 1), isWhole ? 1 : Snapshothall.NONE);
                hall = hall();
                hall.setFuse(fuse, behind == 1);
                Calls.run(hall, "create view v as select*from t;");
                hall.setFuse(0, false);
                if (hall.isDown()) {
                    hall.restart();
                }
                Calls.play(hall, "drop view " + (isWhole ? "v;" : "^v;"), isWhole ? "0" : "N");
            }
        }
    }

    private static void theFuseAtEachCellOfADrop() {
        for (int fuse = 1; fuse <= 13; fuse++) {
            for (int behind = 0; behind < 2; behind++) {
                boolean isWhole = fuse > 12 || fuse == 12 && behind == 1;
                Snapshothall hall = hall();
                Calls.done(hall, "create index i on t(a);");
                hall.setFuse(fuse, behind == 1);
                Calls.run(hall, "drop index i;");
                Calls.due("i with a fuse of " + fuse, hall.indexOf(0, 1), isWhole ? Snapshothall.NONE : 1);
                if (hall.isDown()) {
                    hall.restart();
                }
                hall.setFuse(fuse, behind == 1);
                Calls.run(hall, "drop table t;");
                Calls.due("t with a fuse of " + fuse, hall.tableOf(Calls.word("t")), isWhole ? Snapshothall.NONE : 0);
                Calls.due("transactions", hall.transactions(), 5);
                Calls.due("clock", hall.clock(), isWhole ? 5 : 3);
                if (hall.isDown()) {
                    Calls.due("restart", hall.restart(), isWhole ? 0 : 2);
                }
            }
        }
    }

    // "When the power falls in checkpoint(), nothing is written aside, and the log stays."; "NONE if the power fell"
    private static void theFuseAtEachCellOfACheckpoint() {
        for (int fuse = 1; fuse <= 25; fuse++) {
            for (int behind = 0; behind < 2; behind++) {
                Snapshothall hall = hall();
                hall.setFuse(fuse, behind == 1);
                boolean hasFallen = fuse <= 24;
                Calls.due("checkpoint with a fuse of " + fuse, hall.checkpoint(), hasFallen ? Snapshothall.NONE : 24);
                Calls.due("isDown", hall.isDown(), hasFallen);
                Calls.due("writes", hall.writes(), 24 + (hasFallen ? fuse - 1 + behind : 24));
                Calls.due("fuse left", hall.setFuse(0, false), hasFallen ? 0 : 1);
                Calls.due("clock", hall.clock(), 2);
                if (hasFallen) {
                    Calls.due("restart", hall.restart(), 2);
                }
                Calls.play(hall, "select*from t;", "[1,10;2,20]");
            }
        }
    }

    // "6 cells, and for each version that is committed and not ended by one that is, 1 cell and one for each column, and
    // 12 for each table, index (but those on keys) and view"
    private static void cellsOfACheckpoint() {
        Snapshothall hall = new Snapshothall();
        Calls.due("checkpoint of nothing", hall.checkpoint(), 6);
        Calls.done(hall, "create table t(k int,primary(k));");
        Calls.due("with a table", hall.checkpoint(), 18);
        Calls.done(hall, "create table u(a int,b int,c int,primary(b));");
        Calls.due("with two", hall.checkpoint(), 30);
        Calls.done(hall, "create index i on u(a);");
        Calls.due("with an index", hall.checkpoint(), 42);
        Calls.done(hall, "create view v as select*from u;");
        Calls.due("with a view", hall.checkpoint(), 54);
        Calls.done(hall, "insert into t values(1),(2);insert into u values(1,1,1);");
        Calls.due("with versions", hall.checkpoint(), 54 + 2 * 2 + 4);
        Calls.done(hall, "update t set k=5 where k=1;delete from t where k=2;begin;insert into t values(7);delete from u;rollback;"
                + "begin;save p;insert into t values(8);rollback to p;commit;");
        Calls.due("without those that were ended, or DEAD", hall.checkpoint(), 54 + 2 + 4);
        Calls.done(hall, "vacuum;");
        Calls.due("behind vacuum", hall.checkpoint(), 54 + 2 + 4);
        Calls.due("again", hall.checkpoint(), 60);
        Calls.done(hall, "drop view v;drop index i;drop table u;");
        Calls.due("behind drops", hall.checkpoint(), 6 + 12 + 2);
    }

    private static void fusesOfCommitsWithoutARecord() {
        Snapshothall hall = hall();
        hall.setFuse(1, false);
        Calls.play(hall, "select*from t;begin;commit;delete from t where k=9;begin;save p;delete from t;rollback to p;commit;"
                + "begin;delete from t;rollback;vacuum;analyze;", "[1,10;2,20]", "0", "0", "0", "0", "0", "2", "0", "0", "0", "2",
                "0", "0", "2");
        Calls.due("fuse left", hall.setFuse(1, true), 1);
        Calls.due("isDown", hall.isDown(), false);
        Calls.play(hall, "delete from t;", "P");
    }

    // "its statement and all statements behind it are refused as POWER, until restart()"
    private static void statementsBehindAFall() {
        Snapshothall hall = hall();
        hall.setFuse(8, true);
        Calls.play(hall, "select*from t;insert into t values(3,3);select*from t;begin;vacuum;explain select*from t;",
                "[1,10;2,20]", "P", "P", "P", "P", "P");
        Calls.play(hall, "select*from t;commit;", "P", "P");
        Calls.due("transactions", hall.transactions(), 4);
        Calls.due("the version is there", hall.table(0, 4), 3);
        Calls.due("restart", hall.restart(), 3);
        Calls.play(hall, "select*from t;commit;", "[1,10;2,20;3,3]", "S");
    }

    // "As the power falls, all transactions that are open (the one that commits too, if its record is not whole) are
    // rolled back"
    private static void transactionsAsThePowerFalls() {
        for (int behind = 0; behind < 2; behind++) {
            Snapshothall hall = hall();
            Calls.done(hall, "0:begin;save p;open c for select*from t;delete from t where k=1;1:begin snapshot;insert into t values"
                    + "(5,5);2:begin;insert into t values(3,3);save q;");
            hall.setFuse(8, behind == 1);
            Calls.play(hall, "2:commit;", "P");
            for (int s = 0; s < 4; s++) {
                Calls.due("transaction of session " + s, hall.session(s, 0), Snapshothall.NONE);
                Calls.due("saves of session " + s, hall.session(s, 1), 0);
                Calls.due("cursors of session " + s, hall.session(s, 2), 0);
            }
            Calls.due("the first one", hall.transaction(2, 0), Snapshothall.ROLLED_BACK);
            Calls.due("the SNAPSHOT one", hall.transaction(3, 0), Snapshothall.ROLLED_BACK);
            Calls.due("the one that commits", hall.transaction(4, 0), behind == 1 ? Snapshothall.COMMITTED
                    : Snapshothall.ROLLED_BACK);
            Calls.due("ender of what the first one ended", hall.version(0, 0, 1), Snapshothall.NONE);
            Calls.due("DEAD", hall.table(0, 3), behind == 1 ? 1 : 2);
            Calls.due("versions", hall.table(0, 2), 4);
            Calls.due("entries", hall.index(0, 2), 4);
            Calls.due("restart", hall.restart(), behind == 1 ? 3 : 2);
            Calls.due("versions", hall.table(0, 2), behind == 1 ? 3 : 2);
        }
    }

    // "and the fuse is gone"
    private static void theFuseIsGone() {
        Snapshothall hall = hall();
        hall.setFuse(3, false);
        Calls.play(hall, "delete from t;", "P");
        Calls.due("fuse", hall.setFuse(0, false), 0);
        hall.restart();
        Calls.play(hall, "delete from t;insert into t values(1,1);", "2", "1");
        Calls.due("checkpoint", hall.checkpoint(), 21);
    }

    // "the versions that are there are those that are committed and not ended by a transaction that is, in their order"
    private static void restartLeavesWhatCommitted() {
        Snapshothall hall = hall();
        Calls.done(hall, "insert into t values(3,30),(4,40);delete from t where k=2;update t set a=11 where k=1;begin;insert into t "
                + "values(9,9);rollback;begin;delete from t where k=3;save p;insert into t values(8,8);rollback to p;");
        Calls.due("versions", hall.table(0, 2), 7);
        hall.setFuse(1, false);
        Calls.play(hall, "1:insert into t values(7,7);", "P");
        Calls.due("versions while the power is off", hall.table(0, 2), 8);
        Calls.due("restart", hall.restart(), 3);
        long[][] due = {{3, 30, 2}, {4, 40, 2}, {1, 11, 4}};
        for (int p = 0; p < 3; p++) {
            Calls.due("key at place " + p, hall.valueAt(0, p, 0), due[p][0]);
            Calls.due("value at place " + p, hall.valueAt(0, p, 1), due[p][1]);
            Calls.due("maker at place " + p, (long) hall.version(0, p, 0), due[p][2]);
            Calls.due("ender at place " + p, hall.version(0, p, 1), Snapshothall.NONE);
            Calls.due("DEAD at place " + p, hall.version(0, p, 2), 0);
        }
        // Of all tables together.
        Calls.done(hall, "create table u(k int,primary(k));insert into u values(1),(2);");
        hall.setFuse(1, true);
        Calls.play(hall, "delete from u;", "P");
        Calls.due("restart", hall.restart(), 5);
        // Where there is nothing.
        Snapshothall empty = new Snapshothall();
        empty.setFuse(6, true);
        Calls.due("checkpoint", empty.checkpoint(), Snapshothall.NONE);
        Calls.due("restart of nothing", empty.restart(), 0);
    }

    // "in new trees"
    private static void restartMakesNewTrees() {
        Snapshothall hall = new Snapshothall();
        Calls.done(hall, "create table t(k int,primary(k));create index i on t(k);");
        for (int n = 1; n <= 40; n++) {
            Calls.run(hall, "insert into t values(" + (n % 2 == 0 ? 100 - n : n) + ");");
        }
        Calls.done(hall, "delete from t where k>50;");
        hall.setFuse(1, false);
        Calls.play(hall, "delete from t;", "P");
        Calls.due("entries while the power is off", hall.index(0, 2), 40);
        Calls.due("restart", hall.restart(), 20);
        for (int i = 0; i < 2; i++) {
            Calls.due("entries", hall.index(i, 2), 20);
            Calls.due("height", hall.index(i, 3), 3);
            Calls.due("leaves", hall.index(i, 4), 7);
        }
        Calls.due("errors", hall.errors(), 0);
    }

    // "clock, moments, transactions, spreads, edges and what order() tells stay"
    private static void restartLeavesTheRest() {
        Snapshothall hall = hall();
        Calls.done(hall, "analyze;0:begin;select*from t;1:insert into t values(3,3);0:commit;2:begin;select*from t;3:begin;");
        Calls.due("edge", hall.isEdge(2, 3), true);
        hall.setFuse(1, false);
        Calls.play(hall, "insert into t values(4,4);", "P");
        hall.restart();
        Calls.due("clock", hall.clock(), 3);
        Calls.due("transactions", hall.transactions(), 7);
        Calls.due("spread", hall.spread(0, 1), 2);
        Calls.due("edge", hall.isEdge(2, 3), true);
        Calls.due("edges to", hall.transaction(3, 7), 1);
        Calls.due("snapshot", hall.transaction(6, 2), 3);
        int[] order = {0, 1, 2, 3, -1};
        for (int i = 0; i < order.length; i++) {
            Calls.due("order", hall.order(i), order[i]);
        }
        // Begins were numbered 0, 2, 4, 5, 8, 9, 10.
        Calls.due("moment", hall.transaction(6, 4), 10);
        Calls.done(hall, "begin;");
        Calls.due("the next moment", hall.transaction(7, 4), 11);
        Calls.due("the next snapshot", hall.transaction(7, 2), 3);
    }

    private static void aFuseSetWhileThePowerIsOff() {
        Snapshothall hall = hall();
        hall.setFuse(1, false);
        Calls.play(hall, "delete from t;", "P");
        Calls.due("none", hall.setFuse(8, true), 0);
        hall.restart();
        Calls.due("it is set still", hall.setFuse(8, true), 8);
        Calls.play(hall, "insert into t values(3,3);", "P");
        Calls.due("restart", hall.restart(), 3);
    }

    // "IllegalStateException if the power did not fall"
    private static void restartIfThePowerDidNotFall() {
        Snapshothall hall = hall();
        Calls.throwsAlone(hall, "restart", IllegalStateException.class, hall::restart);
        Calls.done(hall, "begin;delete from t;");
        hall.setFuse(5, false);
        Calls.throwsAlone(hall, "restart", IllegalStateException.class, hall::restart);
        Calls.play(hall, "commit;", "P");
        Calls.due("isDown", hall.isDown(), true);
        Calls.due("restart", hall.restart(), 2);
        Calls.due("isDown", hall.isDown(), false);
        Calls.throwsAlone(hall, "restart again", IllegalStateException.class, hall::restart);
        Calls.refuses("restart of a new one", IllegalStateException.class, () -> new Snapshothall().restart());
    }

    // "IllegalStateException if the power fell, or a transaction is open"
    private static void checkpointIfItCannotBe() {
        Snapshothall hall = hall();
        for (int s = 0; s < 4; s++) {
            Calls.done(hall, s + ":begin;");
            Calls.throwsAlone(hall, "checkpoint with one open", IllegalStateException.class, hall::checkpoint);
            Calls.done(hall, s + ":rollback;");
        }
        Calls.done(hall, "begin snapshot;");
        Calls.throwsAlone(hall, "checkpoint with a SNAPSHOT", IllegalStateException.class, hall::checkpoint);
        Calls.done(hall, "commit;");
        Calls.due("checkpoint", hall.checkpoint(), 24);
        hall.setFuse(1, false);
        Calls.due("checkpoint", hall.checkpoint(), Snapshothall.NONE);
        Calls.throwsAlone(hall, "checkpoint while the power is off", IllegalStateException.class, hall::checkpoint);
        Calls.due("restart", hall.restart(), 2);
        Calls.due("checkpoint", hall.checkpoint(), 24);
    }
}
