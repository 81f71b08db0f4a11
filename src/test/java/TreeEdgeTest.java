/** The bounds of section 10, and of promises 18 and 20 to 24: leaves, nodes, heights, entries, vacuum. */
public final class TreeEdgeTest {
    public static void main(String[] args) {
        withoutEntries();
        leavesOfAtMostFour();
        entriesThatGrow();
        entriesThatFall();
        nodesOfAtMostFive();
        theLeafOfAnEntry();
        likeValuesByPlace();
        nullIsLessThanAllOthers();
        severalColumns();
        versionsThatWereEnded();
        createIndexPutsAllIn();
        vacuumMakesTreesAnew();
        vacuumTakesDeadOnes();
        vacuumAtTheSnapshot();
        vacuumOfAllTables();
        tellingOfTables();
        tellingOfVersions();
        tellingOfIndexes();
        Calls.end("TreeEdgeTest");
    }

    private static Snapshothall hall() {
        Snapshothall hall = new Snapshothall();
        Calls.done(hall, "create table t(k int,primary(k));");
        return hall;
    }

    private static void tree(Snapshothall hall, int index, int entries, int height, int leaves) {
        Calls.due("entries of " + index, hall.index(index, 2), entries);
        Calls.due("height of " + index + " with " + entries, hall.index(index, 3), height);
        Calls.due("leaves of " + index + " with " + entries, hall.index(index, 4), leaves);
        Calls.due("errors", hall.errors(), 0);
    }

    private static void places(Snapshothall hall, int index, int... due) {
        Calls.due("entries", hall.index(index, 2), due.length);
        for (int i = 0; i < due.length; i++) {
            Calls.due("entry " + i + " of " + index, hall.entryAt(index, i), due[i]);
        }
    }

    // "0 without entries"
    private static void withoutEntries() {
        Snapshothall hall = hall();
        tree(hall, 0, 0, 0, 0);
        Calls.refuses("entry 0 of none", IndexOutOfBoundsException.class, () -> hall.entryAt(0, 0));
        Calls.done(hall, "create index i on t(k);");
        tree(hall, 1, 0, 0, 0);
        Calls.done(hall, "insert into t values(1);");
        tree(hall, 0, 1, 1, 1);
        Calls.done(hall, "delete from t;");
        tree(hall, 0, 1, 1, 1);
        Calls.done(hall, "vacuum;");
        tree(hall, 0, 0, 0, 0);
        tree(hall, 1, 0, 0, 0);
    }

    // "Entries are in leaves of at most 4."; "a leaf of 5 parts: the first 3 stay, the other 2 are a leaf behind it"
    private static void leavesOfAtMostFour() {
        Snapshothall hall = hall();
        for (int i = 1; i <= 4; i++) {
            Calls.run(hall, "insert into t values(" + 10 * i + ");");
            tree(hall, 0, i, 1, 1);
        }
        Calls.run(hall, "insert into t values(50);");
        tree(hall, 0, 5, 2, 2);
        // 10 20 30, 40 50: the first one has room for one more, the second one for two.
        Calls.run(hall, "insert into t values(15);");
        tree(hall, 0, 6, 2, 2);
        Calls.run(hall, "insert into t values(60),(70);");
        tree(hall, 0, 8, 2, 2);
        Calls.run(hall, "insert into t values(80);");
        tree(hall, 0, 9, 2, 3);
        // 10 15 20 30, 40 50 60, 70 80.
        Calls.run(hall, "insert into t values(16);");
        tree(hall, 0, 10, 2, 4);
    }

    private static int leavesOfGrowing(int n) {
        return n == 0 ? 0 : n <= 4 ? 1 : 1 + (n - 4 + 2) / 3;
    }

    private static int leavesOfFalling(int n) {
        return n == 0 ? 0 : n <= 4 ? 1 : 1 + (n - 4 + 1) / 2;
    }

    /** Keys one greater than the other: each new leaf comes with three, each new node with three leaves. */
    private static void entriesThatGrow() {
        Snapshothall hall = hall();
        for (int n = 1; n <= 100; n++) {
            Calls.run(hall, "insert into t values(" + n + ");");
            tree(hall, 0, n, n <= 4 ? 1 : n <= 16 ? 2 : n <= 52 ? 3 : 4, leavesOfGrowing(n));
        }
    }

    /** Keys one less than the other: the first leaf grows by two until it is parted. */
    private static void entriesThatFall() {
        Snapshothall hall = hall();
        for (int n = 1; n <= 100; n++) {
            Calls.run(hall, "insert into t values(" + (200 - n) + ");");
            tree(hall, 0, n, n <= 4 ? 1 : n <= 12 ? 2 : n <= 36 ? 3 : 4, leavesOfFalling(n));
        }
    }

    // "Above leaves are nodes of at most 5 leaves or nodes; one of 6 parts likewise: the first 3 stay, the other 3 are a
    // node behind it; two at the top get a node above them."
    private static void nodesOfAtMostFive() {
        Snapshothall hall = hall();
        for (int n = 1; n <= 16; n++) {
            Calls.run(hall, "insert into t values(" + 100 * n + ");");
        }
        tree(hall, 0, 16, 2, 5);
        Calls.run(hall, "insert into t values(1700);");
        tree(hall, 0, 17, 3, 6);
        // Both nodes have three leaves: of nine leaves one has six, and there are three nodes, of the same height.
        for (int n = 18; n <= 26; n++) {
            Calls.run(hall, "insert into t values(" + 100 * n + ");");
        }
        tree(hall, 0, 26, 3, 9);
        // The first node has its three leaves still: it takes two more, and is parted by a third one.
        Calls.run(hall, "insert into t values(101),(102);");
        tree(hall, 0, 28, 3, 10);
        Calls.run(hall, "insert into t values(103),(104);");
        tree(hall, 0, 30, 3, 11);
        // Three nodes by nine leaves, and a fourth one; at six the top is parted.
        int leaves = 11;
        for (int n = 27; n <= 70 && leaves < 18; n++) {
            Calls.run(hall, "insert into t values(" + 100 * n + ");");
            leaves = hall.index(0, 4);
        }
        Calls.due("height of 18 leaves, some nodes of which have more than three", hall.index(0, 3), 3);
        Calls.due("errors", hall.errors(), 0);
    }

    // "into the last leaf whose first entry is not greater than it, or into the first leaf"
    private static void theLeafOfAnEntry() {
        // 10 20 30, 40 50.
        int[][] due = {{5, 6, 3}, {11, 12, 3}, {35, 36, 3}, {31, 39, 3}, {41, 42, 2}, {60, 70, 2}, {39, 41, 2}, {5, 60, 2}};
        for (int[] one : due) {
            Snapshothall hall = hall();
            Calls.done(hall, "insert into t values(10),(20),(30),(40),(50);insert into t values(" + one[0] + ");insert into t "
                    + "values(" + one[1] + ");");
            tree(hall, 0, 7, 2, one[2]);
        }
    }

    // "then by the place"
    private static void likeValuesByPlace() {
        Snapshothall hall = new Snapshothall();
        Calls.done(hall, "create table t(k int,a int,primary(k));create index i on t(a);insert into t values(5,1),(4,1),(3,0),"
                + "(2,1),(1,1),(0,2),(-1,1),(-2,null),(-3,null);");
        places(hall, 1, 7, 8, 2, 0, 1, 3, 4, 6, 5);
        places(hall, 0, 8, 7, 6, 5, 4, 3, 2, 1, 0);
        // Like ones go into the last leaf whose first entry is not greater: as if they grew.
        hall = new Snapshothall();
        Calls.done(hall, "create table t(k int,a int,primary(k));create index i on t(a);");
        for (int n = 1; n <= 20; n++) {
            Calls.run(hall, "insert into t values(" + (50 - n) + ",7);");
            tree(hall, 1, n, n <= 4 ? 1 : n <= 16 ? 2 : 3, leavesOfGrowing(n));
            tree(hall, 0, n, n <= 4 ? 1 : n <= 12 ? 2 : 3, leavesOfFalling(n));
        }
        // Versions of one row have the same key.
        hall = hall();
        Calls.done(hall, "insert into t values(1),(2);update t set k=k where k=1;update t set k=k;");
        places(hall, 0, 0, 2, 3, 1, 4);
    }

    // "NULL is less than all others"
    private static void nullIsLessThanAllOthers() {
        Snapshothall hall = new Snapshothall();
        Calls.done(hall, "create table t(k int,a int,w word,primary(k));create index i on t(a);create index j on t(w);"
                + "insert into t values(1,-(65536*65536*65536*32768),'a'),(2,null,null),(3,0,'aa'),(4,null,null),(5,-1,'z');");
        places(hall, 1, 1, 3, 0, 4, 2);
        places(hall, 2, 1, 3, 0, 2, 4);
    }

    // "by the first value, then by the second one, and so on"
    private static void severalColumns() {
        Snapshothall hall = new Snapshothall();
        Calls.done(hall, "create table t(a int,b int,c int,d int,e int,f int,primary(f));create index i on t(b,a);"
                + "create index j on t(f,e,d,c,b,a);create index l on t(e,d,c,b,a);");
        Calls.due("columns", hall.index(2, 1), 6);
        Calls.due("columns", hall.index(0, 1), 1);
        Calls.done(hall, "insert into t values(1,2,0,0,0,1),(2,1,0,0,0,2),(1,1,0,0,0,3),(null,2,0,0,0,4),(9,null,0,0,0,5),"
                + "(1,1,0,0,0,6);");
        places(hall, 1, 4, 2, 5, 1, 3, 0);
        places(hall, 2, 0, 1, 2, 3, 4, 5);
        places(hall, 3, 4, 2, 5, 1, 3, 0);
        Calls.done(hall, "update t set e=null where f=1;update t set d=-1 where f=2;update t set c=7 where f=5;");
        places(hall, 3, 6, 7, 4, 2, 5, 1, 3, 0, 8);
    }

    // "An index has an entry for each version of its table that is there, also for those that are ended or DEAD"
    private static void versionsThatWereEnded() {
        Snapshothall hall = hall();
        Calls.done(hall, "insert into t values(1),(2),(3);delete from t where k=2;begin;insert into t values(0);rollback;"
                + "begin;save p;insert into t values(5);rollback to p;");
        places(hall, 0, 3, 0, 1, 2, 4);
        // A refused statement leaves none.
        Calls.play(hall, "insert into t values(7),(8),(9),(1);", "R0");
        places(hall, 0, 3, 0, 1, 2, 4);
        Calls.play(hall, "insert into t values(7);commit;", "1", "0");
        places(hall, 0, 3, 0, 1, 2, 4, 5);
    }

    // "create index puts the entries of all versions in, by places"
    private static void createIndexPutsAllIn() {
        Snapshothall hall = hall();
        for (int n = 1; n <= 20; n++) {
            Calls.run(hall, "insert into t values(" + n + ");");
        }
        Calls.done(hall, "delete from t where k>15;begin;insert into t values(0);rollback;create index i on t(k);");
        tree(hall, 1, 21, 3, hall.index(0, 4));
        for (int i = 0; i < 21; i++) {
            Calls.due("entry", hall.entryAt(1, i), i == 0 ? 20 : i - 1);
        }
        // Entries by places: those of keys that fell make other leaves than those that grew.
        Snapshothall falling = hall();
        for (int n = 1; n <= 20; n++) {
            Calls.run(falling, "insert into t values(" + -n + ");");
        }
        Calls.done(falling, "create index i on t(k);");
        tree(falling, 1, 20, 3, leavesOfFalling(20));
    }

    // "the others move up, in their order; and it makes all trees anew, entries by places"
    private static void vacuumMakesTreesAnew() {
        Snapshothall hall = hall();
        for (int n = 1; n <= 40; n++) {
            Calls.run(hall, "insert into t values(" + (n % 2 == 0 ? 100 - n : n) + ");");
        }
        Calls.done(hall, "delete from t where k>50;");
        Calls.play(hall, "vacuum;", "20");
        tree(hall, 0, 20, 3, leavesOfGrowing(20));
        for (int p = 0; p < 20; p++) {
            Calls.due("value at place " + p, hall.valueAt(0, p, 0), 2L * p + 1);
            Calls.due("entry " + p, hall.entryAt(0, p), p);
        }
        // Also where none is taken out: 10 20 30 40, 5 .. made by splits are made anew the same way.
        Calls.leaves(hall, "select ^x from t;", "N");
        String before = Calls.kept(hall);
        Calls.play(hall, "vacuum;", "0");
        Calls.due("a vacuum of nothing", Calls.kept(hall), before);
    }

    // "the versions that are DEAD"
    private static void vacuumTakesDeadOnes() {
        Snapshothall hall = hall();
        Calls.done(hall, "insert into t values(1);begin;save p;insert into t values(2);rollback to p;insert into t values(3);");
        Calls.play(hall, "1:vacuum;select*from t;0:select*from t;rollback;vacuum;", "1", "[1]", "[1;3]", "0", "1");
        Calls.due("versions", hall.table(0, 2), 1);
        // What an open one made, or ended, is neither.
        Calls.play(hall, "begin;insert into t values(4);delete from t;vacuum;rollback;vacuum;select*from t;", "0", "1", "2",
                "0", "0", "1", "[1]");
    }

    // "or whose ender committed, with a stamp that is at most the SNAPSHOT of each transaction that is open"
    private static void vacuumAtTheSnapshot() {
        Snapshothall hall = hall();
        Calls.done(hall, "insert into t values(1),(2),(3);");
        // Session 1 begins ahead of, session 2 behind the commit of the delete: its stamp is the SNAPSHOT of session 2.
        Calls.play(hall, "1:begin snapshot;0:delete from t where k=1;2:begin;vacuum;1:select*from t;2:select*from t;",
                "0", "1", "0", "0", "[1;2;3]", "[2;3]");
        Calls.due("stamp", hall.transaction(3, 3), hall.transaction(4, 2));
        Calls.play(hall, "1:rollback;vacuum;2:select*from t;", "0", "1", "[2;3]");
        Calls.play(hall, "0:delete from t where k=2;vacuum;2:commit;vacuum;vacuum;", "1", "0", "0", "1", "0");
        // Of several the least SNAPSHOT counts.
        Calls.play(hall, "1:begin;0:insert into t values(4);2:begin;0:delete from t;3:begin;vacuum;3:commit;vacuum;2:commit;vacuum;"
                + "1:commit;vacuum;", "0", "1", "0", "2", "0", "0", "0", "0", "0", "0", "0", "2");
        // One that ended it and was rolled back is none.
        Calls.play(hall, "insert into t values(7);begin;delete from t;rollback;vacuum;select*from t;", "1", "0", "1", "0", "0",
                "[7]");
    }

    private static void vacuumOfAllTables() {
        Snapshothall hall = hall();
        Calls.done(hall, "create table u(k int,primary(k));create index i on u(k);insert into t values(1),(2);insert into u "
                + "values(3),(4),(5);delete from t where k=1;delete from u where k<5;");
        Calls.play(hall, "vacuum;", "3");
        Calls.due("versions of t", hall.table(0, 2), 1);
        Calls.due("versions of u", hall.table(1, 2), 1);
        places(hall, 0, 0);
        places(hall, 1, 0);
        places(hall, 2, 0);
        Calls.play(new Snapshothall(), "vacuum;analyze;", "0", "0");
    }

    private static final int[] WRONG = {-1, Integer.MIN_VALUE, Integer.MAX_VALUE, 100, 12};

    private static void tellingOfTables() {
        Snapshothall hall = hall();
        Calls.done(hall, "create table u(k int,a int,primary(a),check(k>0));create index i on u(k);insert into u values(1,1),(2,2);"
                + "begin;delete from u where k=1;insert into u values(3,3);save p;insert into u values(4,4);rollback to p;");
        int[] due = {2, 2, 4, 1, 2, 2, 1};
        for (int what = 0; what < due.length; what++) {
            Calls.due("table(1, " + what + ")", hall.table(1, what), due[what]);
        }
        int[] empty = {1, 1, 0, 0, 0, 1, 0};
        for (int what = 0; what < empty.length; what++) {
            Calls.due("table(0, " + what + ")", hall.table(0, what), empty[what]);
        }
        Calls.done(hall, "commit;");
        Calls.due("seen", hall.table(1, 4), 2);
        for (int one : WRONG) {
            Calls.throwsAlone(hall, "table " + one, IndexOutOfBoundsException.class, () -> hall.table(one, 0));
            Calls.throwsAlone(hall, "table of what " + one, IllegalArgumentException.class, () -> hall.table(1, one));
            Calls.throwsAlone(hall, "both " + one, IndexOutOfBoundsException.class, () -> hall.table(one, one));
            Calls.throwsAlone(hall, "spread of " + one, IndexOutOfBoundsException.class, () -> hall.spread(one, 0));
            Calls.throwsAlone(hall, "spread of column " + one, IndexOutOfBoundsException.class, () -> hall.spread(0, one));
            Calls.throwsAlone(hall, "indexOf " + one, IndexOutOfBoundsException.class, () -> hall.indexOf(one, 0));
            Calls.throwsAlone(hall, "indexOf column " + one, IndexOutOfBoundsException.class, () -> hall.indexOf(0, one));
        }
        Snapshothall other = hall();
        Calls.done(other, "begin;insert into t values(1);rollback;");
        Calls.due("DEAD at place 0", other.table(0, 3), 1);
        Calls.due("seen of one DEAD", other.table(0, 4), 0);
        Calls.throwsAlone(hall, "table 2", IndexOutOfBoundsException.class, () -> hall.table(2, 0));
        Calls.throwsAlone(hall, "table what 7", IllegalArgumentException.class, () -> hall.table(0, 7));
        Calls.throwsAlone(hall, "spread of column 1", IndexOutOfBoundsException.class, () -> hall.spread(0, 1));
        Calls.throwsAlone(hall, "spread of column 2", IndexOutOfBoundsException.class, () -> hall.spread(1, 2));
        Calls.throwsAlone(hall, "indexOf column 1", IndexOutOfBoundsException.class, () -> hall.indexOf(0, 1));
        Calls.due("indexOf", hall.indexOf(1, 0), 2);
        Calls.due("indexOf", hall.indexOf(1, 1), 1);
        Calls.done(hall, "drop index i;");
        Calls.due("indexOf a column without one", hall.indexOf(1, 0), Snapshothall.NONE);
        // A view is no table, nor one that was dropped.
        Calls.done(hall, "create view v as select*from u;drop table t;");
        Calls.due("tableOf a view", hall.tableOf(Calls.word("v")), Snapshothall.NONE);
        Calls.due("tableOf one dropped", hall.tableOf(Calls.word("t")), Snapshothall.NONE);
        Calls.throwsAlone(hall, "one dropped", IndexOutOfBoundsException.class, () -> hall.table(0, 0));
        Calls.throwsAlone(hall, "the index of one dropped", IndexOutOfBoundsException.class, () -> hall.index(0, 0));
        for (long name : new long[] {0, -1, 1, Long.MAX_VALUE, Long.MIN_VALUE, Calls.word("u") << 8, Calls.word("uu"),
            Calls.word("U"), 0x7500000000000000L}) {
            Calls.due("tableOf " + name, hall.tableOf(name), Snapshothall.NONE);
        }
        Calls.due("tableOf u", hall.tableOf(Calls.word("u")), 1);
    }

    private static void tellingOfVersions() {
        Snapshothall hall = hall();
        Calls.done(hall, "insert into t values(7),(8);delete from t where k=7;begin;insert into t values(9);rollback;");
        int[][] due = {{1, 2, 0}, {1, -1, 0}, {3, -1, 1}};
        for (int p = 0; p < 3; p++) {
            for (int what = 0; what < 3; what++) {
                Calls.due("version(0, " + p + ", " + what + ")", hall.version(0, p, what), due[p][what]);
            }
            Calls.due("valueAt", hall.valueAt(0, p, 0), 7L + p);
        }
        for (int one : WRONG) {
            Calls.throwsAlone(hall, "version of table " + one, IndexOutOfBoundsException.class, () -> hall.version(one, 0, 0));
            Calls.throwsAlone(hall, "version at " + one, IndexOutOfBoundsException.class, () -> hall.version(0, one, 0));
            Calls.throwsAlone(hall, "version what " + one, IllegalArgumentException.class, () -> hall.version(0, 0, one));
            Calls.throwsAlone(hall, "version at and what " + one, IndexOutOfBoundsException.class,
                    () -> hall.version(0, one, one));
            Calls.throwsAlone(hall, "valueAt of " + one, IndexOutOfBoundsException.class, () -> hall.valueAt(one, 0, 0));
            Calls.throwsAlone(hall, "valueAt at " + one, IndexOutOfBoundsException.class, () -> hall.valueAt(0, one, 0));
            Calls.throwsAlone(hall, "valueAt column " + one, IndexOutOfBoundsException.class, () -> hall.valueAt(0, 0, one));
        }
        Calls.throwsAlone(hall, "version at 3", IndexOutOfBoundsException.class, () -> hall.version(0, 3, 0));
        Calls.throwsAlone(hall, "version what 3", IllegalArgumentException.class, () -> hall.version(0, 2, 3));
        Calls.throwsAlone(hall, "version of table 1", IndexOutOfBoundsException.class, () -> hall.version(1, 0, 3));
        Calls.throwsAlone(hall, "valueAt at 3", IndexOutOfBoundsException.class, () -> hall.valueAt(0, 3, 0));
        Calls.throwsAlone(hall, "valueAt column 1", IndexOutOfBoundsException.class, () -> hall.valueAt(0, 2, 1));
    }

    private static void tellingOfIndexes() {
        Snapshothall hall = hall();
        Calls.done(hall, "create index i on t(k);insert into t values(7),(8);");
        int[] due = {0, 1, 2, 1, 1};
        for (int i = 0; i < 2; i++) {
            for (int what = 0; what < due.length; what++) {
                Calls.due("index(" + i + ", " + what + ")", hall.index(i, what), due[what]);
            }
        }
        for (int one : WRONG) {
            Calls.throwsAlone(hall, "index " + one, IndexOutOfBoundsException.class, () -> hall.index(one, 0));
            Calls.throwsAlone(hall, "index what " + one, IllegalArgumentException.class, () -> hall.index(0, one));
            Calls.throwsAlone(hall, "index, both " + one, IndexOutOfBoundsException.class, () -> hall.index(one, one));
            Calls.throwsAlone(hall, "entryAt of " + one, IndexOutOfBoundsException.class, () -> hall.entryAt(one, 0));
            Calls.throwsAlone(hall, "entryAt " + one, IndexOutOfBoundsException.class, () -> hall.entryAt(0, one));
        }
        Calls.throwsAlone(hall, "index 2", IndexOutOfBoundsException.class, () -> hall.index(2, 0));
        Calls.throwsAlone(hall, "index 15", IndexOutOfBoundsException.class, () -> hall.index(15, 0));
        Calls.throwsAlone(hall, "index 16", IndexOutOfBoundsException.class, () -> hall.index(16, 0));
        Calls.throwsAlone(hall, "index what 5", IllegalArgumentException.class, () -> hall.index(1, 5));
        Calls.throwsAlone(hall, "entryAt 2", IndexOutOfBoundsException.class, () -> hall.entryAt(1, 2));
        Calls.due("entryAt 1", hall.entryAt(1, 1), 1);
    }
}
