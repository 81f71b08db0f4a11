import java.util.ArrayList;
import java.util.Comparator;
import java.util.List;
import java.util.Random;

/** Promises 6 to 9, 17, 18 and 20 to 24: results, tables, versions, indexes as trees. */
public final class TableTest {
    public static void main(String[] args) {
        results();
        tables();
        versions();
        indexes();
        for (int seed = 0; seed < 40; seed++) {
            trees(new Random(seed));
        }
        Calls.end("TableTest");
    }

    private static void results() {
        Snapshothall hall = new Snapshothall();
        Calls.due("results", hall.results(), 0);
        Calls.refuses("result of none", IndexOutOfBoundsException.class, () -> hall.result(0, 0));
        Calls.play(hall, "create table t(k int,w word,primary(k));2:insert into t values(1,'ab'),(2,null),(-3,'c');"
                + "select w,k,null from t;insert into t values(1,'a');select ^x from t;commit;select k from t where k>9;",
                "0", "3", "[99,-3,-;24930,1,-;-,2,-]", "R0", "N", "S", "[]");
        Calls.due("results", hall.results(), 7);
        int[][] due = {{0, 0, 0, -1, 0, -1}, {2, 0, 3, -1, 0, -1}, {2, 0, 3, -1, 3, -1}, {2, 5, 0, 112, 0, 0},
            {2, 2, 0, 147, 0, -1}, {2, 3, 0, 156, 0, -1}, {2, 0, 0, -1, 1, -1}};
        for (int i = 0; i < due.length; i++) {
            for (int what = 0; what < 6; what++) {
                Calls.due("result(" + i + ", " + what + ")", hall.result(i, what), due[i][what]);
            }
        }
        Calls.due("cell of NULL", hall.cell(2, 2, 0), 0L);
        Calls.due("isNull", hall.isNull(2, 2, 0), true);
        Calls.due("isNull", hall.isNull(2, 0, 0), false);
        Calls.refuses("result 7", IndexOutOfBoundsException.class, () -> hall.result(7, 9));
        Calls.refuses("result -1", IndexOutOfBoundsException.class, () -> hall.result(-1, 0));
        Calls.refuses("result what 6", IllegalArgumentException.class, () -> hall.result(0, 6));
        Calls.refuses("result what -1", IllegalArgumentException.class, () -> hall.result(6, -1));
        int[][] wrong = {{-1, 0, 0}, {7, 0, 0}, {2, -1, 0}, {2, 3, 0}, {2, 0, -1}, {2, 0, 3}, {0, 0, 0}, {3, 0, 0}, {6, 0, 0}};
        for (int[] one : wrong) {
            Calls.refuses("cell", IndexOutOfBoundsException.class, () -> hall.cell(one[0], one[1], one[2]));
            Calls.refuses("isNull", IndexOutOfBoundsException.class, () -> hall.isNull(one[0], one[1], one[2]));
        }
        // A fault leaves the results, a script takes their place.
        Calls.type(hall, "begin");
        Calls.refuses("run of a fault", IllegalArgumentException.class, hall::run);
        Calls.due("results behind a fault", hall.results(), 7);
        Calls.due("cell behind a fault", hall.cell(2, 0, 0), 99L);
        hall.clearText();
        Calls.play(hall, "select k from t;", "[-3;1;2]");
        Calls.due("results", hall.results(), 1);
    }

    private static void tables() {
        Snapshothall hall = new Snapshothall();
        Calls.due("tableOf", hall.tableOf(Calls.word("t")), Snapshothall.NONE);
        Calls.play(hall, "create table long(k int,primary(k));create table t(a int,b word not null,c int,check(a<9),"
                + "primary(c),unique(b));create view v as select*from t;create index i on t(b,a);create index j on t(a);",
                "0", "0", "0", "0", "0");
        Calls.due("tableOf", hall.tableOf(Calls.word("t")), 1);
        Calls.due("tableOf", hall.tableOf(Calls.word("long")), 0);
        Calls.due("tableOf a view", hall.tableOf(Calls.word("v")), Snapshothall.NONE);
        Calls.due("tableOf 0", hall.tableOf(0), Snapshothall.NONE);
        Calls.due("tableOf -1", hall.tableOf(-1), Snapshothall.NONE);
        Calls.due("tableOf t behind zeros", hall.tableOf(Calls.word("t") << 8), Snapshothall.NONE);
        Calls.play(hall, "insert into t values(1,'x',1),(2,'y',2);delete from t where c=1;begin;insert into t values"
                + "(3,'z',3),(4,'u',4);save p;insert into t values(5,'w',5);rollback to p;delete from t where c=2;",
                "2", "1", "0", "2", "0", "1", "0", "1");
        int[] due = {3, 3, 5, 1, 1, 3, 2};
        for (int what = 0; what < due.length; what++) {
            Calls.due("table(1, " + what + ")", hall.table(1, what), due[what]);
        }
        Calls.play(hall, "commit;", "0");
        Calls.due("seen", hall.table(1, 4), 2);
        Calls.refuses("table -1", IndexOutOfBoundsException.class, () -> hall.table(-1, 0));
        Calls.refuses("table 2", IndexOutOfBoundsException.class, () -> hall.table(2, 9));
        Calls.refuses("table what 7", IllegalArgumentException.class, () -> hall.table(1, 7));
        Calls.refuses("table what -1", IllegalArgumentException.class, () -> hall.table(1, -1));
        // The numbers of what was dropped are not used again.
        Calls.play(hall, "drop view v;drop table t;create table t(k int,primary(k));", "0", "0", "0");
        Calls.due("tableOf", hall.tableOf(Calls.word("t")), 2);
        Calls.refuses("table 1", IndexOutOfBoundsException.class, () -> hall.table(1, 0));
        for (int i = 1; i < 4; i++) {
            int dropped = i;
            Calls.refuses("index " + i, IndexOutOfBoundsException.class, () -> hall.index(dropped, 0));
        }
        Calls.due("index of the new table", hall.indexOf(2, 0), 4);
        Calls.due("versions of the new table", hall.table(2, 2), 0);
    }

    private static void versions() {
        Snapshothall hall = new Snapshothall();
        Calls.play(hall, "create table t(k int,w word,primary(k));insert into t values(1,'ab'),(2,null);"
                + "update t set w='c'where k=1;begin;update t set k=3 where k=2;1:begin;insert into t values(9,'i');rollback;",
                "0", "2", "1", "0", "1", "0", "1", "0");
        int[][] due = {{1, 2, 0}, {1, 3, 0}, {2, -1, 0}, {3, -1, 0}, {4, -1, 1}};
        long[][] values = {{1, 24930}, {2, 0}, {1, 99}, {3, 0}, {9, 105}};
        for (int p = 0; p < due.length; p++) {
            for (int what = 0; what < 3; what++) {
                Calls.due("version(0, " + p + ", " + what + ")", hall.version(0, p, what), due[p][what]);
            }
            for (int c = 0; c < 2; c++) {
                Calls.due("valueAt(0, " + p + ", " + c + ")", hall.valueAt(0, p, c), values[p][c]);
            }
        }
        // One transaction is open, which began behind the update; its own version and the ended one stay.
        Calls.play(hall, "vacuum;", "2");
        Calls.due("versions", hall.table(0, 2), 3);
        Calls.due("moved up", hall.valueAt(0, 0, 0), 2L);
        Calls.due("ender of the one moved up", hall.version(0, 0, 1), 3);
        Calls.play(hall, "0:rollback;vacuum;select*from t;", "0", "1", "[1,99;2,-]");
        Calls.due("ender taken back", hall.version(0, 0, 1), Snapshothall.NONE);
        // What an open transaction can still see stays.
        Calls.play(hall, "1:begin;0:delete from t where k=1;vacuum;1:select*from t;commit;vacuum;",
                "0", "1", "0", "[1,99;2,-]", "0", "1");
        Calls.refuses("version -1", IndexOutOfBoundsException.class, () -> hall.version(0, -1, 0));
        Calls.refuses("version 1", IndexOutOfBoundsException.class, () -> hall.version(0, 1, 7));
        Calls.refuses("version of table 1", IndexOutOfBoundsException.class, () -> hall.version(1, 0, 0));
        Calls.refuses("version what 3", IllegalArgumentException.class, () -> hall.version(0, 0, 3));
        Calls.refuses("version what -1", IllegalArgumentException.class, () -> hall.version(0, 0, -1));
        int[][] wrong = {{-1, 0, 0}, {1, 0, 0}, {0, -1, 0}, {0, 1, 0}, {0, 0, -1}, {0, 0, 2}};
        for (int[] one : wrong) {
            Calls.refuses("valueAt", IndexOutOfBoundsException.class, () -> hall.valueAt(one[0], one[1], one[2]));
        }
        // A refused statement leaves no versions, and trees as they were.
        Calls.play(hall, "insert into t values(5,'a'),(6,'a'),(2,'a');", "R0");
        Calls.due("versions", hall.table(0, 2), 1);
        Calls.due("entries", hall.index(0, 2), 1);
    }

    private static void indexes() {
        Snapshothall hall = new Snapshothall();
        Calls.play(hall, "create table t(k int,a int,w word,primary(k));create index i on t(w,a);create index j on t(a);",
                "0", "0", "0");
        Calls.due("height without entries", hall.index(0, 3), 0);
        Calls.due("leaves without entries", hall.index(0, 4), 0);
        Calls.play(hall, "insert into t values(5,1,'b'),(4,null,'b'),(3,2,null),(2,1,'ab');update t set a=9 where k=2;"
                + "begin;insert into t values(1,1,'b');rollback;", "4", "1", "0", "1", "0");
        int[][] due = {{0, 1, 6, 2, 2}, {0, 2, 6, 2, 2}, {0, 1, 6, 2, 2}};
        int[][] places = {{5, 3, 4, 2, 1, 0}, {2, 3, 4, 1, 0, 5}, {1, 0, 3, 5, 2, 4}};
        for (int i = 0; i < 3; i++) {
            for (int what = 0; what < 5; what++) {
                Calls.due("index(" + i + ", " + what + ")", hall.index(i, what), due[i][what]);
            }
            for (int e = 0; e < 6; e++) {
                Calls.due("entryAt(" + i + ", " + e + ")", hall.entryAt(i, e), places[i][e]);
            }
        }
        Calls.due("indexOf", hall.indexOf(0, 0), 0);
        Calls.due("indexOf", hall.indexOf(0, 2), 1);
        Calls.due("indexOf", hall.indexOf(0, 1), 2);
        Calls.play(hall, "create index l on t(a,k);drop index j;drop index i;", "0", "0", "0");
        Calls.due("indexOf", hall.indexOf(0, 1), 3);
        Calls.due("indexOf", hall.indexOf(0, 2), Snapshothall.NONE);
        Calls.due("entries of a late index", hall.index(3, 2), 6);
        Calls.refuses("index -1", IndexOutOfBoundsException.class, () -> hall.index(-1, 0));
        Calls.refuses("index 1", IndexOutOfBoundsException.class, () -> hall.index(1, 7));
        Calls.refuses("index 4", IndexOutOfBoundsException.class, () -> hall.index(4, 0));
        Calls.refuses("index what 5", IllegalArgumentException.class, () -> hall.index(0, 5));
        Calls.refuses("index what -1", IllegalArgumentException.class, () -> hall.index(0, -1));
        Calls.refuses("entryAt -1", IndexOutOfBoundsException.class, () -> hall.entryAt(0, -1));
        Calls.refuses("entryAt 6", IndexOutOfBoundsException.class, () -> hall.entryAt(0, 6));
        Calls.refuses("entryAt of index 2", IndexOutOfBoundsException.class, () -> hall.entryAt(2, 0));
        Calls.refuses("indexOf table 1", IndexOutOfBoundsException.class, () -> hall.indexOf(1, 0));
        Calls.refuses("indexOf column 3", IndexOutOfBoundsException.class, () -> hall.indexOf(0, 3));
        Calls.refuses("indexOf column -1", IndexOutOfBoundsException.class, () -> hall.indexOf(0, -1));
    }

    /** A leaf with entries, or a node with parts; entries are value and place. */
    private static final class Part {
        final List<Part> parts = new ArrayList<>();
        final List<long[]> entries = new ArrayList<>();
    }

    private static final Comparator<long[]> BY_ENTRY =
            Comparator.<long[]>comparingLong(e -> e[0]).thenComparingLong(e -> e[1]);

    /** Puts an entry into a tree of real nodes, as section 10 tells it; answers the new part behind it, if any. */
    private static Part put(Part at, long[] entry) {
        Part split = null;
        if (at.parts.isEmpty()) {
            at.entries.add(entry);
            at.entries.sort(BY_ENTRY);
            if (at.entries.size() == 5) {
                split = new Part();
                split.entries.addAll(at.entries.subList(3, 5));
                at.entries.subList(3, 5).clear();
            }
            return split;
        }
        int i = at.parts.size() - 1;
        while (i > 0 && BY_ENTRY.compare(firstOf(at.parts.get(i)), entry) > 0) {
            i--;
        }
        Part more = put(at.parts.get(i), entry);
        if (more != null) {
            at.parts.add(i + 1, more);
        }
        if (at.parts.size() == 6) {
            split = new Part();
            split.parts.addAll(at.parts.subList(3, 6));
            at.parts.subList(3, 6).clear();
        }
        return split;
    }

    private static long[] firstOf(Part part) {
        return part.parts.isEmpty() ? part.entries.get(0) : firstOf(part.parts.get(0));
    }

    private static int leavesOf(Part part, List<long[]> entries) {
        entries.addAll(part.entries);
        int leaves = part.parts.isEmpty() ? 1 : 0;
        for (Part one : part.parts) {
            leaves += leavesOf(one, entries);
        }
        return leaves;
    }

    private static Part put(Part root, long value, long place) {
        Part split = put(root, new long[] {value, place});
        if (split == null) {
            return root;
        }
        Part top = new Part();
        top.parts.add(root);
        top.parts.add(split);
        return top;
    }

    private static void alike(Snapshothall hall, int index, Part root) {
        List<long[]> entries = new ArrayList<>();
        int leaves = leavesOf(root, entries);
        int height = entries.isEmpty() ? 0 : 1;
        for (Part part = root; !part.parts.isEmpty(); part = part.parts.get(0)) {
            height++;
        }
        Calls.due("entries", hall.index(index, 2), entries.size());
        Calls.due("height", hall.index(index, 3), height);
        Calls.due("leaves", hall.index(index, 4), entries.isEmpty() ? 0 : leaves);
        for (int i = 0; i < entries.size(); i++) {
            Calls.due("entry", hall.entryAt(index, i), (int) entries.get(i)[1]);
        }
    }

    private static void trees(Random random) {
        Snapshothall hall = new Snapshothall();
        Calls.play(hall, "create table t(k int,a int,primary(k));create index i on t(a);", "0", "0");
        Part keys = new Part();
        Part others = new Part();
        List<long[]> rows = new ArrayList<>();
        int kind = random.nextInt(4);
        for (int i = 0; i < 100; i++) {
            long key = kind == 0 ? i : kind == 1 ? 200 - i : random.nextInt(100000) * 100L + i;
            long other = kind == 3 ? 7 : random.nextInt(9);
            Calls.play(hall, "insert into t values(" + key + "," + (other == 8 ? "null" : "" + other) + ");", "1");
            rows.add(new long[] {key, other == 8 ? -1 : other});
            keys = put(keys, key, i);
            others = put(others, other == 8 ? -1 : other, i);
            if (i % 9 == 0 || i == 99) {
                alike(hall, 0, keys);
                alike(hall, 1, others);
            }
        }
        Calls.due("errors", hall.errors(), 0);
        Calls.play(hall, "create index j on t(a);", "0");
        alike(hall, 2, others);
        // vacuum makes the trees anew.
        Calls.play(hall, "delete from t where a>3 or a is null;vacuum;", "" + rows.stream().filter(r -> r[1] > 3
                || r[1] < 0).count(), "" + rows.stream().filter(r -> r[1] > 3 || r[1] < 0).count());
        keys = new Part();
        others = new Part();
        int place = 0;
        for (long[] row : rows) {
            if (row[1] >= 0 && row[1] <= 3) {
                keys = put(keys, row[0], place);
                others = put(others, row[1], place);
                place++;
            }
        }
        alike(hall, 0, keys);
        alike(hall, 2, others);
        Calls.due("errors", hall.errors(), 0);
    }
}
