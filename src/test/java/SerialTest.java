import java.util.ArrayList;
import java.util.List;
import java.util.Random;

/**
 * Promise 33 behind scripts at random: isSerial is compared with what the test finds by itself, when it does the
 * statements of the told order in another hall; it is true where the document promises that it always is.
 */
public final class SerialTest {
    private static final String[] TABLES = {"t", "u", "x"};
    private static final int SESSIONS = 4;

    private final Random random;
    private final Snapshothall hall = new Snapshothall();
    private final List<Done> dones = new ArrayList<>();
    private final StringBuilder log = new StringBuilder();
    /** Whether sessions make many versions, and vacuum often. */
    private final boolean isCrowded;
    private final int keys;
    private int fresh;
    private boolean wasFull;

    /** A statement of a SERIALIZABLE transaction, and what it was told. */
    private record Done(int owner, String text, int refusal, String told) {
    }

    private SerialTest(int seed) {
        random = new Random(seed * 7919L + 13);
        isCrowded = random.nextBoolean();
        keys = new int[] {3, 6, 12, 60, 100}[random.nextInt(5)];
    }

    public static void main(String[] args) {
        for (int seed = 0; seed < 2500; seed++) {
            new SerialTest(seed).play();
        }
        Calls.end("SerialTest");
    }

    private int below(int bound) {
        return random.nextInt(bound);
    }

    private String pick(String... texts) {
        return texts[random.nextInt(texts.length)];
    }

    // statements

    private String key() {
        return "" + below(keys);
    }

    private String table() {
        return pick("t", "t", "u", "x");
    }

    private String where() {
        return pick("", " where k=" + key(), " where k=" + key() + " and a=1", " where k>" + key(), " where k<" + key() + " and "
                + key() + "<=k", " where k=" + key() + " or a=1", " where a=" + below(4), " where k between " + key() + " and " + key(),
                " where not k=" + key(), " where [k=" + key() + "]", " where k=null", " where k in(" + key() + "," + key() + ")",
                " where k in(select a from " + table() + ")", " where exists(select*from u where u.a=k)", " where a is null",
                " where k=" + key() + "*2-" + below(3));
    }

    private String query() {
        return pick("select*from " + pick("t", "u", "x", "v") + where(), "select k,a from " + table() + where() + " order by 2 down,1",
                "select count(*),sum(a),min(k),max(a)from " + pick("t", "u", "x", "v") + where(),
                "select a,count(*)from " + table() + where() + " group by a", "select t.k,u.k from t,u where t.k=" + key()
                + " and t.a=u.a", "select t.k,y.a from t left join " + pick("u", "x", "v") + " as y on y.k=t.a where t.k>" + key(),
                "select t.k from t join x on x.k=t.k and x.a=1 where x.k>" + key(), "select k from " + table()
                + " union select k from " + table(), "select k from t except select a from " + table(),
                "select distinct a from " + table() + where() + " order by 1 limit 2");
    }

    private String value() {
        return pick("0", "1", "2", "3", "null", "4", "5");
    }

    private String insert(int from, int rows) {
        StringBuilder text = new StringBuilder("insert into " + table() + " values");
        for (int k = from; k < from + rows; k++) {
            text.append(k == from ? "(" : ",(").append(k).append(',').append(isCrowded ? "null,null" : value() + "," + value())
                    .append(')');
        }
        return text.toString();
    }

    private String statement() {
        String table = table();
        switch (below(20)) {
            case 0:
            case 1:
            case 2:
                return insert(below(keys), 1);
            case 3:
                return insert(below(keys), 1 + below(10));
            case 4:
                return "insert into " + table + " select k+" + key() + ",a,b from " + pick("t", "u", "x", "v") + where();
            case 5:
            case 6:
                return "update " + table + " set a=" + pick(value(), "k", "b", "a+1", "k-1") + where();
            case 7:
                return "update " + table + " set k=k+" + below(3) + ",b=" + value() + where();
            case 8:
            case 9:
                return "delete from " + table + where();
            case 10:
                return pick("save p", "save q", "save r");
            case 11:
                return pick("rollback to p", "rollback to q", "rollback to r");
            case 12:
                return "open " + pick("c", "d") + " for " + query();
            case 13:
            case 14:
                return pick("fetch c 1", "fetch c 5", "close c", "fetch d 2", "fetch d 0", "close d");
            case 15:
                return pick("vacuum", "analyze", "commit", "begin", "rollback", "create index j on t(a)", "explain select*from t");
            default:
                return query();
        }
    }

    private String crowding() {
        if (hall.table(0, 2) > 88 || hall.table(2, 2) > 88) {
            return pick("rollback to p", "rollback to p", "vacuum", "vacuum", "commit", "rollback", "delete from t where k>" + key());
        }
        switch (below(9)) {
            case 0:
            case 1:
            case 2:
            case 3:
            case 4:
                fresh += 10;
                return insert(fresh, 9 + below(2));
            case 5:
                return "delete from t where k>=" + (fresh - below(50)) + " and k<" + (fresh + 10);
            case 6:
                return "save p";
            case 7:
                return pick("rollback to p", "update t set b=b where k>" + (fresh - 15), "update t set b=9 where k=" + key());
            default:
                return pick("vacuum", "vacuum", "vacuum", statement());
        }
    }

    // runs

    private void play() {
        perform(0, "create table t(k int,a int,b int,primary(k)" + pick("", "", ",unique(a)", ",unique(a,b)", ",check(a<4)",
                ",refer(a)to t") + ")");
        perform(0, "create table u(k int,a int" + pick("", " not null") + ",b int,primary(k)" + pick("", ",refer(a)to t",
                ",refer(b)to t,unique(b)") + ")");
        perform(0, "create table x(k int,a int,b int,primary(k)" + pick("", ",refer(a)to t") + ")");
        perform(0, "create view v as select k,a,b from t where a>" + below(2));
        boolean hasSnapshots = below(3) == 0;
        int sessions = 1 + below(SESSIONS);
        for (int round = 0; round < 3; round++) {
            hall.setFuse(isCrowded || below(5) > 0 ? 0 : 1 + below(60), random.nextBoolean());
            int steps = 5 + below(40);
            for (int i = 0; i < steps; i++) {
                step(below(sessions), hasSnapshots);
            }
            for (int s = 0; s < SESSIONS; s++) {
                if (hall.session(s, 0) != Snapshothall.NONE) {
                    perform(s, pick("commit", "commit", "commit", "rollback"));
                }
            }
            if (hall.isDown()) {
                hall.restart();
            }
            compare();
        }
    }

    private void step(int session, boolean hasSnapshots) {
        boolean begins = hall.session(session, 0) == Snapshothall.NONE && (isCrowded || below(3) > 0);
        if (begins) {
            perform(session, hasSnapshots && below(3) == 0 ? "begin snapshot" : "begin");
        } else {
            perform(session, below(isCrowded ? 40 : 15) == 0 ? "commit" : isCrowded ? crowding() : statement());
        }
        if (isCrowded && begins) {
            perform(session, "save p");
        }
    }

    private void perform(int session, String text) {
        log.append(session).append(':').append(text).append(";\n");
        int own = hall.session(session, 0);
        int before = hall.transactions();
        Calls.run(hall, session + ":" + text + ";");
        wasFull |= hall.result(0, 1) == Snapshothall.FULL;
        int owner = own != Snapshothall.NONE ? own : hall.transactions() > before ? before : Snapshothall.NONE;
        boolean isNone = text.startsWith("vacuum") || text.startsWith("analyze") || text.startsWith("explain");
        if (!isNone && owner != Snapshothall.NONE && hall.transaction(owner, 1) == 1) {
            dones.add(new Done(owner, text, hall.result(0, 1), told(hall)));
        }
    }

    /** What is compared of a result. */
    private static String told(Snapshothall of) {
        return of.result(0, 1) + " " + of.result(0, 2) + (of.result(0, 4) == 0 ? "" : Calls.rows(of, 0));
    }

    private boolean isPromised() {
        boolean isPromised = !wasFull;
        for (int t = 0; t < hall.transactions(); t++) {
            isPromised &= hall.transaction(t, 0) != Snapshothall.COMMITTED || hall.transaction(t, 1) == 1;
        }
        return isPromised;
    }

    private void compare() {
        boolean isSerial;
        try {
            isSerial = hall.isSerial();
        } catch (IllegalStateException e) {
            return;
        }
        if (isPromised()) {
            Calls.due("isSerial behind " + log, isSerial, true);
        }
        Snapshothall second = new Snapshothall();
        boolean isAlike = true;
        for (int i = 0; hall.order(i) != Snapshothall.NONE; i++) {
            for (Done one : dones) {
                if (one.owner != hall.order(i)) {
                    continue;
                }
                Calls.run(second, one.text + ";");
                if (second.result(0, 1) == Snapshothall.FULL && one.refusal != Snapshothall.FULL) {
                    // The other hall has no more room than the document gives it.
                    return;
                }
                isAlike &= one.refusal == Snapshothall.CONFLICT || one.refusal == Snapshothall.POWER
                        || one.told.equals(told(second));
            }
        }
        for (String table : TABLES) {
            isAlike &= rows(hall, table).equals(rows(second, table));
        }
        Calls.due("isSerial behind " + log, isSerial, isAlike);
    }

    /** The rows of a table; a SNAPSHOT transaction that reads them is in no order. */
    private static String rows(Snapshothall of, String table) {
        Calls.run(of, "begin snapshot;select*from " + table + " limit 60;select*from " + table + " limit 60 offset 60;commit;");
        return Calls.told(of, 1) + Calls.told(of, 2);
    }
}
