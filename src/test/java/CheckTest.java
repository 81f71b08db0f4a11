import java.util.Random;

/** Promises 30 to 34: checksum, meanVersions, unseenShare, isSerial, errors. */
public final class CheckTest {
    public static void main(String[] args) {
        sums();
        serial();
        unequal();
        refusals();
        for (int seed = 0; seed < 400; seed++) {
            atRandom(new Random(seed));
        }
        Calls.end("CheckTest");
    }

    private static Snapshothall hall() {
        Snapshothall hall = new Snapshothall();
        Calls.play(hall, "create table t(k int,w word,primary(k));insert into t values(1,'ab'),(2,null);", "0", "2");
        return hall;
    }

    /** The checksum as promise 30 tells it, by what the other calls tell. */
    private static long sum(Snapshothall hall) {
        long sum = 31L * hall.clock() + hall.transactions();
        for (int t = 0; t < 12; t++) {
            for (int p = 0; isTable(hall, t) && p < hall.table(t, 2); p++) {
                sum = 31 * sum + hall.version(t, p, 0);
                sum = 31 * sum + hall.version(t, p, 1);
                for (int c = 0; c < hall.table(t, 0); c++) {
                    sum = 31 * sum + hall.valueAt(t, p, c);
                }
            }
        }
        return sum;
    }

    private static boolean isTable(Snapshothall hall, int t) {
        try {
            return hall.table(t, 0) > 0;
        } catch (IndexOutOfBoundsException e) {
            return false;
        }
    }

    private static void sums() {
        Snapshothall hall = new Snapshothall();
        Calls.due("mean without tables", hall.meanVersions(), 0.0);
        Calls.due("share without versions", hall.unseenShare(), 0.0f);
        Calls.play(hall, "create table t(k int,w word,primary(k));", "0");
        Calls.due("checksum", hall.checksum(), 32L);
        Calls.due("mean without versions", hall.meanVersions(), 0.0);
        Calls.due("share without versions", hall.unseenShare(), 0.0f);
        Calls.play(hall, "insert into t values(1,'ab'),(2,null);", "2");
        long sum = 64L;
        long[] numbers = {1, -1, 1, 24930, 1, -1, 2, 0};
        for (long number : numbers) {
            sum = 31 * sum + number;
        }
        Calls.due("checksum", hall.checksum(), sum);
        Calls.play(hall, "create table u(k int,primary(k));create table x(k int,primary(k));update t set w='zz'where k=1;"
                + "begin;insert into u values(5),(-6);1:insert into x values(7),(8);0:rollback;begin;delete from x;drop table x;",
                "0", "0", "1", "0", "2", "2", "0", "0", "2", "S");
        Calls.due("checksum", hall.checksum(), sum(hall));
        Calls.due("mean", hall.meanVersions(), 7.0 / 3.0);
        Calls.due("share", hall.unseenShare(), 3.0f / 7.0f);
        Calls.play(hall, "commit;drop table x;", "0", "0");
        Calls.due("checksum", hall.checksum(), sum(hall));
        Calls.due("mean", hall.meanVersions(), 2.5);
        Calls.due("share", hall.unseenShare(), 0.6f);
    }

    private static void serial() {
        Snapshothall hall = new Snapshothall();
        Calls.due("isSerial of nothing", hall.isSerial(), true);
        hall = hall();
        Calls.play(hall, "0:begin;1:begin;0:select*from t;1:insert into t values(3,'c');open c for select w from t;"
                + "fetch c 2;fetch c 9;1:select ^x from t;insert into t values(1,'z');explain select*from t;vacuum;analyze;"
                + "commit;0:select*from t;commit;", "0", "0", "[1,24930;2,-]", "1", "0", "[24930;-]", "[99]", "N", "R0", "8",
                "0", "3", "0", "[1,24930;2,-]", "0");
        Calls.due("order", hall.order(2) * 10 + hall.order(3), 23);
        Calls.due("isSerial", hall.isSerial(), true);
        Calls.due("isSerial again", hall.isSerial(), true);
        // The text that is typed stays as it is.
        Calls.type(hall, "begin;");
        Calls.due("isSerial", hall.isSerial(), true);
        Calls.due("run", hall.run(), 1);
        Calls.refuses("isSerial while one is open", IllegalStateException.class, hall::isSerial);
        Calls.play(hall, "rollback;create view v as select count(*)as n from t;select*from v;drop view v;create index i on t(w);"
                + "drop table t;create table t(k int,primary(k));select*from t;", "0", "0", "[3]", "0", "0", "0", "0", "[]");
        Calls.due("isSerial behind drops", hall.isSerial(), true);
        Calls.due("transactions told", hall.order(10), 11);
        Calls.play(hall, "select*from t;", "[]");
        Calls.due("isSerial of 12", hall.isSerial(), true);
        Calls.play(hall, "select*from t;", "[]");
        Calls.refuses("isSerial of 13", IllegalStateException.class, hall::isSerial);
    }

    private static void unequal() {
        // A SNAPSHOT transaction is not run anew.
        Snapshothall hall = hall();
        Calls.play(hall, "begin snapshot;insert into t values(3,'c');rollback;begin snapshot;select*from t;commit;",
                "0", "1", "0", "0", "[1,24930;2,-]", "0");
        Calls.due("isSerial", hall.isSerial(), true);
        Calls.play(hall, "begin snapshot;insert into t values(3,'c');commit;", "0", "1", "0");
        Calls.due("isSerial", hall.isSerial(), false);
        Calls.play(hall, "delete from t where k=3;", "1");
        Calls.due("isSerial by a number", hall.isSerial(), false);
        hall = hall();
        Calls.play(hall, "begin snapshot;update t set w='c';commit;select w from t where k=1;update t set w='ab'where k=1;"
                + "update t set w=null where k=2;", "0", "2", "0", "[99]", "1", "1");
        Calls.due("isSerial by an answer", hall.isSerial(), false);
        hall = hall();
        Calls.play(hall, "begin snapshot;delete from t where k=1;commit;insert into t values(1,'ab');", "0", "1", "0", "1");
        Calls.due("isSerial by a refusal", hall.isSerial(), false);
        hall = hall();
        Calls.play(hall, "begin snapshot;delete from t where k=1;insert into t values(1,'ab');commit;begin;insert into t "
                + "values(1,'ab');select*from t;commit;", "0", "1", "1", "0", "0", "R0", "[1,24930;2,-]", "0");
        Calls.due("isSerial of like rows", hall.isSerial(), true);
    }

    private static void refusals() {
        Snapshothall hall = new Snapshothall();
        Calls.play(hall, "create table t(k int,a int,primary(k));insert into t values(0,0),(1,0),(2,0),(3,0),(4,0);"
                + "insert into t select k+5,0 from t;insert into t select k+10,0 from t;insert into t select k+20,0 from t;"
                + "insert into t select k+40,0 from t where k<10;update t set a=1;vacuum;update t set a=2;",
                "0", "5", "5", "10", "20", "10", "50", "50", "50");
        // The second hall is not vacuumed in between, yet it holds what this one did: the work is 5+10+20+40+50+50.
        Calls.due("isSerial", hall.isSerial(), true);
        Calls.play(hall, "vacuum;select count(*)from t;select count(*)from t,t as x where x.k=0;begin;select count(*)"
                + "from t;select count(*)from t;rollback;begin;select count(*)from t;select count(*)from t;select count(*)"
                + "from t;commit;", "50", "[50]", "F", "0", "[50]", "[50]", "0", "0", "[50]", "[50]", "[50]", "0");
        Calls.due("isSerial", hall.isSerial(), true);
        Calls.play(hall, "begin;select count(*)from t where k<25;insert into t values(99,case when exists(select*from t)"
                + "then 1 else 2 end);rollback;explain select*from t,t as x;", "0", "[25]", "1", "0", "17");
        Calls.due("isSerial at 375", hall.isSerial(), true);
        Calls.play(hall, "select count(*)from t;", "[50]");
        Calls.refuses("isSerial at 425", IllegalStateException.class, hall::isSerial);
        Calls.due("errors", hall.errors(), 0);
    }

    private static String pick(Random random, String... texts) {
        return texts[random.nextInt(texts.length)];
    }

    private static String statement(Random random) {
        String where = pick(random, "", " where k=1", " where k>1", " where 2>k", " where k=2 and a=1", " where a=1",
                " where k=0 or k=3", " where exists(select*from u where u.a=1)", " where k in(select a from t)");
        String value = pick(random, "0", "1", "2", "3", "null");
        String table = pick(random, "t", "u");
        switch (random.nextInt(11)) {
            case 0:
            case 1:
                return "insert into " + table + " values(" + random.nextInt(6) + "," + value + ")";
            case 2:
                return "insert into " + table + " select k+" + random.nextInt(4) + ",a from " + pick(random, "t", "u", "v");
            case 3:
            case 4:
                return "update " + table + " set a=" + value + where;
            case 5:
                return "update " + table + " set k=k+" + random.nextInt(3) + where;
            case 6:
                return "delete from " + table + where;
            case 7:
                return "select*from " + pick(random, "t", "u", "v") + where;
            case 8:
                return pick(random, "save p", "save q", "rollback to p", "rollback to q");
            case 9:
                return pick(random, "open c for select*from t", "fetch c 1", "close c", "select sum(a)from v");
            default:
                return pick(random, "vacuum", "commit", "begin", "rollback", "select t.k from t left join u on u.k=t.a");
        }
    }

    /** The theorem holds for whatever SERIALIZABLE transactions do, also behind cuts; errors are never found. */
    private static void atRandom(Random random) {
        Snapshothall hall = new Snapshothall();
        StringBuilder log = new StringBuilder();
        play(hall, log, "create table t(k int,a int,primary(k)" + pick(random, "", ",unique(a)", ",check(a<3)") + ");"
                + "create table u(k int,a int,refer(a)to t,primary(k));create view v as select*from t where a>0;"
                + "insert into t values(0,1),(1,2),(2,null);");
        for (int i = 0; i < 3; i++) {
            if (random.nextInt(4) == 0) {
                hall.setFuse(1 + random.nextInt(40), random.nextBoolean());
            }
            StringBuilder script = new StringBuilder("1:begin;2:begin;");
            for (int k = 0; k < 9; k++) {
                script.append(1 + random.nextInt(2)).append(':').append(statement(random)).append(';');
            }
            play(hall, log, script.append("1:commit;2:commit;").toString());
            Calls.due("errors behind " + log, hall.errors(), 0);
            Calls.due("checksum behind " + log, hall.checksum(), sum(hall));
            if (hall.isDown()) {
                hall.restart();
                Calls.due("errors behind restart " + log, hall.errors(), 0);
            }
            if (hall.order(12) == Snapshothall.NONE) {
                Calls.due("isSerial behind " + log, hall.isSerial(), true);
            }
        }
    }

    private static void play(Snapshothall hall, StringBuilder log, String script) {
        log.append(script).append(' ');
        Calls.type(hall, script);
        hall.run();
    }
}
