import java.lang.reflect.Constructor;
import java.lang.reflect.Field;
import java.lang.reflect.Method;
import java.lang.reflect.Modifier;
import java.util.ArrayList;
import java.util.Collections;
import java.util.List;

/** The face, section 13, and the bounds of promises 1, 6, 7 and 30 to 34: new objects, results, checks. */
public final class CallEdgeTest {
    public static void main(String[] args) {
        theFace();
        theConstants();
        aNewObject();
        objectsOfTheirOwn();
        results();
        checksums();
        meansOfVersions();
        sharesOfVersions();
        isSerialOfAtMostTwelve();
        isSerialWithAWorkOfAtMostFourHundred();
        isSerialIfItCannotBe();
        isSerialOfWhatIsUnlike();
        isSerialOfAnswersUnlikeInABit();
        isSerialOfWideAnswersUnlikeInAValue();
        isSerialOfTheLastAnswers();
        isSerialAmongManyRolledBack();
        isSerialWithoutExplain();
        isSerialOfRefusals();
        isSerialOfMoreVersionsThanATableHas();
        isSerialOfMoreRowsThanATableHas();
        isSerialOfWhatWasFull();
        isSerialChangesNothing();
        errorsAreNone();
        fiveHundredCalls();
        Calls.end("CallEdgeTest");
    }

    private static Snapshothall hall() {
        Snapshothall hall = new Snapshothall();
        Calls.done(hall, "create table t(k int,a int,primary(k));insert into t values(1,10),(2,20);");
        return hall;
    }

    private static void theFace() {
        Class<?> face = Snapshothall.class;
        Calls.due("public and final", Modifier.toString(face.getModifiers()), "public final");
        List<String> methods = new ArrayList<>();
        for (Method one : face.getDeclaredMethods()) {
            if (!Modifier.isPrivate(one.getModifiers())) {
                StringBuilder told = new StringBuilder(Modifier.toString(one.getModifiers()) + " " + one.getReturnType() + " "
                        + one.getName());
                for (Class<?> parameter : one.getParameterTypes()) {
                    told.append(' ').append(parameter);
                }
                for (Class<?> thrown : one.getExceptionTypes()) {
                    told.append(" !").append(thrown.getSimpleName());
                }
                methods.add(told.toString());
            }
        }
        Collections.sort(methods);
        String bounds = " !IndexOutOfBoundsException";
        String argument = " !IllegalArgumentException";
        String state = " !IllegalStateException";
        String[] due = {"long cell int int int" + bounds, "long checksum", "int checkpoint" + state, "int clearText", "int clock",
            "int entryAt int int" + bounds, "int errors", "int fault", "int index int int" + bounds + argument,
            "int indexOf int int" + bounds, "boolean isDown", "boolean isEdge int int" + bounds,
            "boolean isNull int int int" + bounds, "boolean isSerial" + state, "double meanVersions", "int order int" + argument,
            "int outputByte int", "int restart" + state, "int result int int" + bounds + argument, "int results",
            "int run" + argument, "int session int int" + bounds + argument, "int setFuse int boolean" + argument,
            "int spread int int" + bounds, "int table int int" + bounds + argument, "int tableOf long",
            "int transaction int int" + bounds + argument, "int transactions", "int type long long long long long" + argument
            + state, "float unseenShare", "long valueAt int int int" + bounds, "int version int int int" + bounds + argument,
            "int writes"};
        List<String> wanted = new ArrayList<>();
        for (String one : due) {
            wanted.add("public " + one);
        }
        Collections.sort(wanted);
        Calls.due("methods", methods.toString(), wanted.toString());
        Constructor<?>[] makers = face.getDeclaredConstructors();
        Calls.due("constructors", makers.length, 1);
        Calls.due("the constructor", Modifier.isPublic(makers[0].getModifiers()) && makers[0].getParameterCount() == 0, true);
        int constants = 0;
        for (Field one : face.getDeclaredFields()) {
            boolean isPublic = Modifier.isPublic(one.getModifiers());
            constants += isPublic ? 1 : 0;
            Calls.due("field " + one.getName(), isPublic || Modifier.isPrivate(one.getModifiers()), true);
        }
        Calls.due("constants", constants, 10);
    }

    private static void theConstants() {
        int[] constants = {Snapshothall.NONE, Snapshothall.NAMES, Snapshothall.STATE, Snapshothall.FULL, Snapshothall.RULE,
            Snapshothall.CONFLICT, Snapshothall.POWER, Snapshothall.OPEN, Snapshothall.COMMITTED, Snapshothall.ROLLED_BACK};
        int[] due = {-1, 2, 3, 4, 5, 6, 7, 0, 1, 2};
        for (int i = 0; i < due.length; i++) {
            Calls.due("constant " + i, constants[i], due[i]);
        }
    }

    // "Creates a hall without tables, with an empty text, an empty output and no results."
    private static void aNewObject() {
        Snapshothall hall = new Snapshothall();
        Calls.due("text", hall.type(0, 0, 0, 0, 0), 0);
        Calls.due("fault", hall.fault(), Snapshothall.NONE);
        Calls.due("output", hall.outputByte(0), Snapshothall.NONE);
        Calls.due("results", hall.results(), 0);
        for (int t = 0; t < 12; t++) {
            Calls.due("table " + t, Calls.hasTable(hall, t), false);
        }
        for (int i = 0; i < 16; i++) {
            Calls.due("index " + i, Calls.hasIndex(hall, i), false);
        }
        for (int s = 0; s < 4; s++) {
            Calls.due("transaction", hall.session(s, 0), Snapshothall.NONE);
            Calls.due("saves", hall.session(s, 1), 0);
            Calls.due("cursors", hall.session(s, 2), 0);
        }
        Calls.due("transactions", hall.transactions(), 0);
        Calls.due("clock", hall.clock(), 0);
        Calls.due("order", hall.order(0), Snapshothall.NONE);
        Calls.due("writes", hall.writes(), 0);
        Calls.due("isDown", hall.isDown(), false);
        Calls.due("checksum", hall.checksum(), 0L);
        Calls.due("meanVersions", hall.meanVersions(), 0.0);
        Calls.due("unseenShare", hall.unseenShare(), 0.0f);
        Calls.due("isSerial", hall.isSerial(), true);
        Calls.due("errors", hall.errors(), 0);
        Calls.due("run", hall.run(), 0);
        Calls.due("checkpoint", hall.checkpoint(), 6);
        Calls.due("setFuse", hall.setFuse(0, false), 0);
        Calls.refuses("restart", IllegalStateException.class, hall::restart);
        Calls.refuses("result", IndexOutOfBoundsException.class, () -> hall.result(0, 0));
        Calls.refuses("cell", IndexOutOfBoundsException.class, () -> hall.cell(0, 0, 0));
        Calls.refuses("isNull", IndexOutOfBoundsException.class, () -> hall.isNull(0, 0, 0));
        Calls.refuses("transaction", IndexOutOfBoundsException.class, () -> hall.transaction(0, 0));
        Calls.refuses("table", IndexOutOfBoundsException.class, () -> hall.table(0, 0));
        Calls.refuses("version", IndexOutOfBoundsException.class, () -> hall.version(0, 0, 0));
        Calls.refuses("valueAt", IndexOutOfBoundsException.class, () -> hall.valueAt(0, 0, 0));
        Calls.refuses("entryAt", IndexOutOfBoundsException.class, () -> hall.entryAt(0, 0));
    }

    private static void objectsOfTheirOwn() {
        Snapshothall one = hall();
        Snapshothall other = new Snapshothall();
        Calls.due("tables of the other one", other.tableOf(Calls.word("t")), Snapshothall.NONE);
        Calls.done(one, "begin;delete from t;");
        Calls.due("session of the other one", other.session(0, 0), Snapshothall.NONE);
        Calls.due("like ones tell the same", Calls.kept(hall()), Calls.kept(hall()));
    }

    // promises 6 and 7: "Returns 0 to 40."
    private static void results() {
        Snapshothall hall = hall();
        Calls.run(hall, "3:select k,a from t;insert into t values(1,null);select x from t;");
        Calls.due("results", hall.results(), 3);
        int[][] due = {{3, 0, 2, -1, 2, -1}, {3, 5, 0, 20, 0, 0}, {3, 2, 0, 56, 0, -1}};
        for (int i = 0; i < 3; i++) {
            for (int what = 0; what < 6; what++) {
                Calls.due("result(" + i + ", " + what + ")", hall.result(i, what), due[i][what]);
            }
        }
        for (int one : new int[] {-1, 3, 40, 39, Integer.MIN_VALUE, Integer.MAX_VALUE}) {
            Calls.throwsAlone(hall, "result " + one, IndexOutOfBoundsException.class, () -> hall.result(one, 0));
            Calls.throwsAlone(hall, "result, both " + one, IndexOutOfBoundsException.class, () -> hall.result(one, 6));
            if (one != 3) {
                Calls.throwsAlone(hall, "result, what " + one, IllegalArgumentException.class, () -> hall.result(2, one));
            }
        }
        Calls.throwsAlone(hall, "result, what 6", IllegalArgumentException.class, () -> hall.result(0, 6));
        Calls.throwsAlone(hall, "result 3 and what 6", IndexOutOfBoundsException.class, () -> hall.result(3, 6));
        Calls.run(hall, Calls.many("vacuum;", "", 40));
        Calls.due("results", hall.results(), 40);
        Calls.due("the last one", hall.result(39, 1), 0);
        Calls.throwsAlone(hall, "result 40", IndexOutOfBoundsException.class, () -> hall.result(40, 0));
    }

    // "c, which is 0 at first and becomes 31 * c + n (as longs that go round) for each of these numbers n"
    private static void checksums() {
        Snapshothall hall = new Snapshothall();
        Calls.due("checksum of nothing", hall.checksum(), 0L);
        Calls.done(hall, "begin;");
        Calls.due("checksum of a transaction", hall.checksum(), 1L);
        Calls.done(hall, "commit;create table t(k int,w word,primary(k));");
        Calls.due("checksum of a table", hall.checksum(), 31L + 2);
        Calls.done(hall, "insert into t values(-5,'ab'),(7,null);");
        long[] numbers = {2, 3, 2, -1, -5, 24930, 2, -1, 7, 0};
        Calls.due("checksum of versions", hall.checksum(), sumOf(numbers));
        Calls.done(hall, "create table u(k int,primary(k));insert into u values(65536*65536*65536*32768);begin;delete from t where "
                + "k=7;");
        long[] more = {4, 6, 2, -1, -5, 24930, 2, 5, 7, 0, 4, -1, Long.MIN_VALUE};
        Calls.due("checksum of tables", hall.checksum(), sumOf(more));
        Calls.done(hall, "rollback;drop table t;");
        long[] less = {5, 7, 4, -1, Long.MIN_VALUE};
        Calls.due("checksum without what was dropped", hall.checksum(), sumOf(less));
    }

    private static long sumOf(long[] numbers) {
        long sum = 0;
        for (long number : numbers) {
            sum = 31 * sum + number;
        }
        return sum;
    }

    // "the number of all versions that are there ... divided by the number of tables ...; 0.0 without tables"
    private static void meansOfVersions() {
        Snapshothall hall = new Snapshothall();
        Calls.due("without tables", hall.meanVersions(), 0.0);
        Calls.done(hall, "create table t(k int,primary(k));");
        Calls.due("without versions", hall.meanVersions(), 0.0);
        Calls.done(hall, "insert into t values(1),(2);create table u(k int,primary(k));create table x(k int,primary(k));");
        Calls.due("two of three", hall.meanVersions(), 2.0 / 3.0);
        Calls.done(hall, "delete from t;begin;insert into u values(1),(2),(3);rollback;create view v as select*from t;");
        Calls.due("ended and DEAD ones", hall.meanVersions(), 5.0 / 3.0);
        Calls.done(hall, "drop table x;");
        Calls.due("of two tables", hall.meanVersions(), 2.5);
        Calls.done(hall, "vacuum;");
        Calls.due("behind vacuum", hall.meanVersions(), 0.0);
    }

    // "0.0f without versions"
    private static void sharesOfVersions() {
        Snapshothall hall = new Snapshothall();
        Calls.due("without tables", hall.unseenShare(), 0.0f);
        Calls.done(hall, "create table t(k int,primary(k));create table u(k int,primary(k));");
        Calls.due("without versions", hall.unseenShare(), 0.0f);
        Calls.done(hall, "insert into t values(1),(2);");
        Calls.due("all seen", hall.unseenShare(), 0.0f);
        Calls.done(hall, "begin;insert into u values(1);");
        Calls.due("one of three", hall.unseenShare(), 1.0f / 3.0f);
        Calls.done(hall, "delete from t where k=1;");
        Calls.due("one that was ended by an open one is seen", hall.unseenShare(), 1.0f / 3.0f);
        Calls.done(hall, "commit;");
        Calls.due("the other one of three", hall.unseenShare(), 1.0f / 3.0f);
        Calls.done(hall, "delete from t;delete from u;");
        Calls.due("none seen", hall.unseenShare(), 1.0f);
    }

    // "IllegalStateException if there are more than 12 transactions in the order"
    private static void isSerialOfAtMostTwelve() {
        Snapshothall hall = hall();
        Calls.done(hall, Calls.many("select k from t;", "", 10));
        Calls.due("order", hall.order(11), 11);
        Calls.due("isSerial of 12", hall.isSerial(), true);
        Calls.done(hall, "begin snapshot;commit;begin;rollback;");
        Calls.due("isSerial of 12 in the order", hall.isSerial(), true);
        Calls.done(hall, "begin;commit;");
        Calls.throwsAlone(hall, "isSerial of 13", IllegalStateException.class, hall::isSerial);
    }

    // "or the statements that are run anew have together a WORK (section 3) above 400"
    private static void isSerialWithAWorkOfAtMostFourHundred() {
        Snapshothall hall = new Snapshothall();
        Calls.done(hall, "create table t(k int,primary(k));insert into t values(1),(2),(3),(4),(5),(6),(7),(8),(9),(10);"
                + "insert into t select k+10 from t;create table o(k int,primary(k));begin;insert into o values(1);rollback;");
        // The insert had 10; 19 * 20 are 380, and 10 more.
        Calls.play(hall, "begin;select count(*)from t,t as x where x.k<0;rollback;", "0", "[0]", "0");
        Calls.done(hall, "begin;delete from t where k=20;");
        Calls.play(hall, "select count(*)from t,t as x where x.k<0 union select 1 from o;commit;", "[0]", "0");
        // 10, 20 and 361 + 1.
        Calls.due("isSerial at 392", hall.isSerial(), true);
        Calls.play(hall, "begin;" + Calls.many("select k from o;", "", 8) + "commit;", "0", "[]", "[]", "[]", "[]", "[]", "[]", "[]",
                "[]", "0");
        Calls.due("isSerial at 400", hall.isSerial(), true);
        Calls.done(hall, "explain select*from t,t as x;create view v as select t.k from t,t as x;analyze;vacuum;");
        // Those that are refused as NAMES or STATE have none.
        Calls.play(hall, "begin;select*from t,t as x where ^y=1;begin;drop table t;fetch c 1;commit;", "0", "N", "S", "S", "S",
                "0");
        Calls.due("isSerial at 400 still", hall.isSerial(), true);
        Calls.done(hall, "begin;delete from o;rollback;");
        Calls.due("isSerial at 400 still", hall.isSerial(), true);
        Calls.done(hall, "delete from o where k=5;");
        Calls.throwsAlone(hall, "isSerial at 401", IllegalStateException.class, hall::isSerial);
    }

    // "the power fell, a transaction is open"
    private static void isSerialIfItCannotBe() {
        Snapshothall hall = hall();
        for (int s = 0; s < 4; s++) {
            Calls.done(hall, s + (s == 2 ? ":begin snapshot;" : ":begin;"));
            Calls.throwsAlone(hall, "isSerial with one open", IllegalStateException.class, hall::isSerial);
            Calls.done(hall, s + ":rollback;");
        }
        Calls.due("isSerial", hall.isSerial(), true);
        hall.setFuse(1, true);
        Calls.play(hall, "delete from t;", "P");
        Calls.throwsAlone(hall, "isSerial while the power is off", IllegalStateException.class, hall::isSerial);
        hall.restart();
        Calls.due("isSerial behind restart", hall.isSerial(), true);
        // A statement with POWER, whose record is whole, has happened: it is run anew, and not compared.
        hall.setFuse(6, true);
        Calls.play(hall, "delete from t where k=1;", "P");
        hall.restart();
        hall.setFuse(6, true);
        Calls.play(hall, "begin;delete from t where k=2;commit;", "0", "1", "P");
        hall.restart();
        Calls.due("isSerial behind two cuts", hall.isSerial(), true);
        Calls.due("order", hall.order(3), 8);
        Calls.play(hall, "select*from t;", "[]");
    }

    private static void isSerialOfWhatIsUnlike() {
        // A SNAPSHOT transaction changed what others then read: rows, numbers, answers, refusals.
        String snapshot = "begin snapshot;insert into t values(3,30);commit;";
        String[][] due = {{"", "false"}, {"delete from t where k=3;", "false"}, {"select*from t;", "false"},
            {"select*from t where k<3;begin snapshot;delete from t where k=3;commit;", "true"},
            {"select a from t where k=3;begin snapshot;delete from t where k=3;commit;", "false"},
            {"begin;open c for select*from t;fetch c 2;commit;begin snapshot;delete from t;commit;insert into t values(1,10),(2,20);",
                "false"},
            {"begin;open c for select*from t;fetch c 2;commit;begin snapshot;delete from t where k=3;commit;", "true"},
            {"begin;open c for select*from t;fetch c 2;fetch c 2;commit;begin snapshot;delete from t where k=3;commit;", "false"}};
        for (String[] one : due) {
            Snapshothall hall = hall();
            Calls.run(hall, snapshot);
            Calls.run(hall, one[0]);
            Calls.due("isSerial behind " + one[0], hall.isSerial(), one[1].equals("true"));
        }
        // Rows at last: like keys with another value, other rows as many, and none.
        String[] changes = {"update t set a=11 where k=1;", "update t set k=3 where k=1;", "delete from t;",
            "update t set a=null where k=2;"};
        for (String change : changes) {
            Snapshothall unlike = hall();
            Calls.done(unlike, "begin snapshot;" + change + "commit;");
            Calls.due("isSerial behind " + change, unlike.isSerial(), false);
        }
        Snapshothall alike = hall();
        Calls.done(alike, "begin snapshot;update t set a=a,k=k;commit;");
        Calls.due("isSerial behind an update to the same", alike.isSerial(), true);
        Snapshothall hall = hall();
        Calls.run(hall, snapshot + "insert into t values(3,30);begin snapshot;delete from t where k=3;commit;");
        Calls.due("isSerial by a refusal of its own, rolled back", hall.isSerial(), true);
        hall = hall();
        Calls.run(hall, snapshot + "begin;insert into t values(3,30);delete from t where k=3;commit;");
        Calls.due("isSerial by a refusal", hall.isSerial(), false);
        // Not the number of the RULE is compared.
        hall = new Snapshothall();
        Calls.done(hall, "create table t(k int,a int,primary(k),unique(a));insert into t values(1,10);begin snapshot;insert into t "
                + "values(2,20);commit;");
        Calls.play(hall, "begin;insert into t values(2,10);commit;begin snapshot;delete from t where k=2;commit;", "0", "R0", "0",
                "0", "1", "0");
        Calls.due("isSerial by another RULE", hall.isSerial(), true);
    }

    /** Each bit of an answer counts, and NULL is not 0. */
    private static void isSerialOfAnswersUnlikeInABit() {
        for (int bit = 0; bit < 64; bit++) {
            Snapshothall hall = new Snapshothall();
            Calls.done(hall, "create table t(k int,a int,primary(k));insert into t values(1,0);");
            String sum = Calls.many("65536*", "", bit / 16) + (1 << bit % 16);
            Calls.done(hall, "begin snapshot;update t set a=" + sum + ";commit;");
            Calls.play(hall, "select a from t;", "[" + (1L << bit) + "]");
            Calls.done(hall, "begin snapshot;update t set a=0;commit;");
            Calls.due("isSerial unlike in bit " + bit, hall.isSerial(), false);
            Calls.done(hall, "select a from t;");
            Calls.due("isSerial unlike in bit " + bit, hall.isSerial(), false);
        }
        String[][] due = {{"null", "0", "false"}, {"0", "null", "false"}, {"null", "null", "true"}, {"7", "7", "true"},
            {"0", "0-0", "true"}, {"1", "-1", "false"}};
        for (String[] one : due) {
            Snapshothall hall = new Snapshothall();
            Calls.done(hall, "create table t(k int,a int,b word,primary(k));insert into t values(1," + one[1] + ",'b');begin snapshot;"
                    + "update t set a=" + one[0] + ";commit;select*from t;begin snapshot;update t set a=" + one[1] + ";commit;");
            Calls.due("isSerial of " + one[0] + " and " + one[1], hall.isSerial(), one[2].equals("true"));
        }
    }

    /** Answers of many columns and rows, of which one value is unlike. */
    private static void isSerialOfWideAnswersUnlikeInAValue() {
        for (int row = 1; row <= 4; row++) {
            for (int column = 0; column < 5; column++) {
                Snapshothall hall = new Snapshothall();
                Calls.done(hall, "create table t(k int,a int,b int,c int,d int,e int,primary(k));insert into t values(1,0,0,0,0,0),"
                        + "(2,0,0,0,0,0),(3,0,0,0,0,0),(4,null,null,null,null,null);create table o(k int,primary(k));insert into o "
                        + "values(1);create view v as select*from o,t;create view w as select x.k as l from v as y,o as x where y.e=0 and y.e=1;");
                String set = "update t set " + (char) ('a' + column) + "=";
                Calls.done(hall, "begin snapshot;" + set + (row < 4 ? "null" : "0") + " where k=" + row + ";commit;begin;"
                        + "select*from t left join w on 1=1;commit;begin snapshot;" + set + (row < 4 ? "0" : "null") + " where k="
                        + row + ";commit;");
                Calls.due("isSerial, row " + row + " column " + column, hall.isSerial(), false);
            }
        }
        // Columns 64 and more have their bits for NULL in another number.
        String views = "create table t(k int,a int,primary(k));insert into t values(1,0);create view u as select*from t,t as x,t as y;"
                + "create view v as select*from u,u as x,u as y;create view w as select*from v,v as x,v as y;";
        Snapshothall hall = new Snapshothall();
        Calls.done(hall, views);
        Calls.due("rows", Calls.tell(hall, "select*from w;").length(), 109);
        Calls.done(hall, "begin snapshot;delete from t;commit;");
        Calls.due("rows", Calls.tell(hall, "select*from t left join w on 1=1;"), "[]");
        Calls.done(hall, "begin snapshot;insert into t values(1,null);commit;");
        Calls.due("isSerial of answers of 54 and 56 columns", hall.isSerial(), false);
        String[][] due = {{"0", "null", "false"}, {"null", "0", "false"}, {"5", "5", "true"}, {"5", "6", "false"}};
        for (String[] one : due) {
            hall = new Snapshothall();
            Calls.done(hall, views.replace("(1,0)", "(1," + one[1] + ")") + "begin snapshot;update t set a=" + one[0]
                    + ";commit;select*from w,v;begin snapshot;update t set a=" + one[1] + ";commit;");
            Calls.due("columns", hall.result(8, 4), 72);
            Calls.due("isSerial of " + one[0] + " and " + one[1], hall.isSerial(), one[2].equals("true"));
        }
    }

    /** The last answers that the WORK of 400 lets be looked at, and what is fetched of them. */
    private static void isSerialOfTheLastAnswers() {
        String[] last = {"select a from t;", "begin;open c for select a from t;fetch c 1;commit;"};
        for (int i = 0; i < 4; i++) {
            Snapshothall hall = new Snapshothall();
            Calls.done(hall, "create table t(k int,a int,primary(k));insert into t values(1,1);begin;");
            for (int k = 0; k < 21; k++) {
                Calls.done(hall, Calls.many("select k from t;", "", 19));
            }
            Calls.done(hall, "commit;" + (i < 2 ? "" : "begin snapshot;update t set a=2;commit;") + last[i % 2]
                    + "begin snapshot;update t set a=1;commit;");
            Calls.due("isSerial at 400, " + i, hall.isSerial(), i < 2);
            Calls.done(hall, "select k from t;");
            Calls.throwsAlone(hall, "isSerial at 401", IllegalStateException.class, hall::isSerial);
        }
        // More than 400, but of transactions that are rolled back.
        Snapshothall hall = hall();
        for (int i = 0; i < 30; i++) {
            Calls.done(hall, "begin;" + Calls.many("select*from t;", "", 30) + "rollback;");
            Calls.due("isSerial behind rollback", hall.isSerial(), true);
        }
        Calls.done(hall, "select*from t;");
        Calls.due("isSerial by an answer", hall.isSerial(), true);
        Calls.done(hall, "begin snapshot;update t set a=5;commit;select*from t;");
        Calls.due("isSerial by an answer", hall.isSerial(), false);
    }

    /** Records that are kept stay what they are, when those of transactions rolled back among them are forgotten. */
    private static void isSerialAmongManyRolledBack() {
        for (int unlike = 0; unlike < 9; unlike++) {
            Snapshothall hall = new Snapshothall();
            Calls.done(hall, "create table t(k int,a int,primary(k));insert into t values(1,0),(2,0);0:begin;");
            for (int i = 1; i < 9; i++) {
                Calls.done(hall, "1:begin;2:begin;select*from t,t as x;1:select*from t where k=1;2:rollback;1:commit;");
                Calls.done(hall, i == unlike ? "1:begin snapshot;update t set a=1;commit;" : "3:select*from t;begin;rollback;");
                Calls.done(hall, "0:" + Calls.many("select*from t,t as x;", "", i == 8 ? 3 : 2));
                if (i == unlike) {
                    Calls.done(hall, "1:select a from t;begin snapshot;update t set a=0;commit;");
                }
                if (i == 1) {
                    Calls.done(hall, "0:commit;begin;");
                }
                if (hall.order(9) != Snapshothall.NONE) {
                    break;
                }
            }
            Calls.done(hall, "0:rollback;");
            Calls.due("isSerial, unlike " + unlike, hall.isSerial(), unlike == 0 || unlike > 4);
        }
    }

    /** What explain tells, which is no statement of a transaction, is not compared. */
    private static void isSerialWithoutExplain() {
        Snapshothall hall = hall();
        Calls.done(hall, "begin;insert into t values(3,1),(4,1),(5,1),(6,1),(7,1),(8,1),(9,1),(10,1);rollback;begin;");
        Calls.play(hall, "explain select*from t;analyze;vacuum;analyze;commit;", "9", "10", "8", "2", "0");
        Calls.due("isSerial", hall.isSerial(), true);
    }

    // "always true, if all transactions that committed were SERIALIZABLE and nothing was refused as FULL"
    private static void isSerialOfRefusals() {
        Snapshothall hall = hall();
        Calls.play(hall, "begin;select ^x from t;begin;fetch c 1;insert into t values(1,1);insert into t values(3,3);commit;"
                + "0:begin;1:begin;0:select*from t where k=1;1:select*from t where k=2;0:update t set a=5 where k=2;1:update t set "
                + "a=6 where k=1;0:commit;", "0", "N", "S", "S", "R0", "1", "0", "0", "0", "[1,10]", "[2,20]", "1", "C", "0");
        Calls.due("isSerial", hall.isSerial(), true);
        Calls.done(hall, "0:begin;select*from t;1:update t set a=7;0:commit;vacuum;create index i on t(a);drop index i;");
        Calls.due("isSerial", hall.isSerial(), true);
    }

    /** Inserts rows with the keys from one on, ten by ten. */
    private static void insert(Snapshothall hall, int session, int from, int howMany) {
        for (int ten = from; ten < from + howMany; ten += 10) {
            StringBuilder text = new StringBuilder(session + ":insert into t values");
            for (int k = ten; k < Math.min(ten + 10, from + howMany); k++) {
                text.append(k == ten ? "(" : ",(").append(k).append(')');
            }
            Calls.done(hall, text.append(';').toString());
        }
    }

    private static Snapshothall oneColumn() {
        Snapshothall hall = new Snapshothall();
        Calls.done(hall, "create table t(k int,primary(k));");
        return hall;
    }

    // "always true": whatever was rolled back, taken back, or taken out by vacuum or restart(), of which nothing is run anew
    private static void isSerialOfMoreVersionsThanATableHas() {
        // Taken back and vacuumed, behind another one that comes first; up to a hundred versions of each of both.
        for (int rows = 0; rows <= 100; rows += 25) {
            Snapshothall hall = oneColumn();
            Calls.done(hall, "0:begin;1:begin;save s;");
            insert(hall, 1, 100, rows);
            Calls.play(hall, "1:rollback to s;vacuum;commit;", "0", "" + rows, "0");
            insert(hall, 0, 300, 100);
            Calls.done(hall, "0:commit;");
            Calls.due("order", hall.order(1) * 10 + hall.order(2), 12);
            Calls.due("isSerial of a hundred and " + rows, hall.isSerial(), true);
            Calls.due("isSerial again", hall.isSerial(), true);
        }
        // Ended, and taken out by vacuum or restart.
        for (int how = 0; how < 2; how++) {
            Snapshothall hall = oneColumn();
            for (int i = 0; i < 3; i++) {
                Calls.done(hall, "begin;");
                insert(hall, 0, 50 * i, 100);
                Calls.done(hall, "commit;");
                Calls.due("isSerial", hall.isSerial(), true);
                Calls.done(hall, "delete from t;");
                hall.setFuse(how, false);
                Calls.play(hall, "create table u(k int,primary(k));drop table u;vacuum;", how == 0 ? "0" : "P", how == 0 ? "0" : "P",
                        how == 0 ? "100" : "P");
                Calls.due("versions", hall.isDown() ? hall.restart() : 0, 0);
                if (i < 2) {
                    Calls.due("isSerial of none", hall.isSerial(), true);
                }
            }
        }
        // In one transaction, which takes back and vacuums again and again.
        Snapshothall hall = oneColumn();
        Calls.done(hall, "0:begin;1:begin;");
        insert(hall, 1, 0, 40);
        Calls.done(hall, "1:save s;");
        for (int i = 0; i < 9; i++) {
            insert(hall, 1, 40, 60);
            Calls.play(hall, "1:insert into t values(" + i + "),(200);rollback to s;vacuum;", "F", "0", "60");
            insert(hall, 1, 40, 58);
            Calls.play(hall, "1:insert into t values(" + i + "),(200);rollback to s;vacuum;", "R0", "0", "58");
        }
        insert(hall, 0, 500, 60);
        Calls.done(hall, "1:commit;0:commit;");
        Calls.due("isSerial", hall.isSerial(), true);
    }

    /** More rows than a table has, if they are made anew and what a SNAPSHOT transaction deleted is still there. */
    private static void isSerialOfMoreRowsThanATableHas() {
        Snapshothall hall = oneColumn();
        Calls.done(hall, "begin;");
        insert(hall, 0, 0, 60);
        Calls.done(hall, "commit;begin snapshot;delete from t;commit;vacuum;begin;");
        insert(hall, 0, 100, 60);
        Calls.done(hall, "commit;");
        Calls.due("isSerial of 60 rows, and 120", hall.isSerial(), false);
        Calls.done(hall, "delete from t where k>=0;");
        Calls.due("isSerial by a number", hall.isSerial(), false);
    }

    /** A statement that was FULL is FULL anew, if the table has as many versions then. */
    private static void isSerialOfWhatWasFull() {
        for (int taken = 0; taken < 2; taken++) {
            Snapshothall hall = oneColumn();
            Calls.done(hall, "begin;save s;");
            insert(hall, 0, 0, 100);
            Calls.play(hall, (taken == 1 ? "rollback to s;" : "save s;") + "insert into t values(100);commit;", "0", "F", "0");
            Calls.due("isSerial", hall.isSerial(), true);
        }
        // Those of a transaction that was rolled back are not there anew.
        Snapshothall hall = oneColumn();
        Calls.done(hall, "begin;");
        insert(hall, 0, 0, 100);
        Calls.play(hall, "rollback;begin;insert into t values(100);commit;", "0", "0", "F", "0");
        Calls.due("isSerial of what is not FULL anew", hall.isSerial(), false);
    }

    private static void isSerialChangesNothing() {
        Snapshothall hall = hall();
        Calls.run(hall, "select*from t;explain select*from t;");
        Calls.type(hall, "begin;x");
        hall.setFuse(7, false);
        String before = Calls.kept(hall) + Calls.outcome(hall);
        for (int i = 0; i < 5; i++) {
            Calls.due("isSerial", hall.isSerial(), true);
        }
        Calls.due("all behind isSerial", Calls.kept(hall) + Calls.outcome(hall), before);
        Calls.due("the fuse", hall.setFuse(0, false), 7);
        // However often it is asked.
        Snapshothall often = hall();
        Calls.play(often, "create index i on t(a);create view v as select*from t;begin;save p;delete from t;rollback to p;insert into "
                + "t select k+2,a from v;commit;select*from v;", "0", "0", "0", "0", "2", "0", "2", "0", "[1,10;2,20;3,10;4,20]");
        for (int i = 0; i < 100; i++) {
            Calls.due("isSerial, asked " + i, often.isSerial(), true);
        }
    }

    // "always 0"
    private static void errorsAreNone() {
        Snapshothall hall = hall();
        String[] scripts = {"create index i on t(a,k);begin snapshot;update t set a=a+1;insert into t values(5,null);",
            "1:begin;select*from t;insert into t values(6,6);", "0:commit;", "1:rollback;", "vacuum;", "delete from t;",
            "insert into t values(1,1),(2,2),(3,3),(4,4),(5,5),(6,6),(7,7),(8,8),(9,9),(10,10);", "drop index i;", "drop table t;"};
        for (String script : scripts) {
            Calls.run(hall, script);
            Calls.due("errors behind " + script, hall.errors(), 0);
        }
    }

    /** "An object is used for at most 512 calls": the last one is answered as the first one. */
    private static void fiveHundredCalls() {
        Snapshothall hall = new Snapshothall();
        int calls = 0;
        hall.type(0x637265617465L, 0x207461626c65L, 0x2074286b20696e74L, 0x2c7072696d617279L, 0x286b29293bL);
        hall.run();
        calls += 2;
        for (int i = 0; i < 255; i++) {
            // insert into t select count(*)from t;
            hall.type(0x696e7365727420L, 0x696e746f207420L, 0x73656c65637420L, 0x636f756e74282a29L, 0x66726f6d20743bL);
            Calls.due("run", hall.run(), 1);
            calls += 2;
        }
        Calls.due("calls", calls, 512);
        Calls.due("versions", hall.table(0, 2), 100);
        Calls.due("errors", hall.errors(), 0);
    }
}
