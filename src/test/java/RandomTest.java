import java.util.Random;

/**
 * All promises: calls and scripts at random. No call throws but what its promise tells, and only by the face
 * itself; errors are never found.
 */
public final class RandomTest {
    private static final String[] PIECES = ("create table index on view as drop insert into values update set where "
            + "delete from begin snapshot commit rollback to save open for fetch close explain vacuum analyze int word "
            + "not null primary unique check refer union except order by limit offset select distinct join left group "
            + "having down or and exists is in between case when then else end coalesce count sum min max ( ) [ ] , ; "
            + ": = < <= > >= <> + - * / % . t u v k a b 0 1 2 3 9 'a' 'ab' ! ' A").split(" ");

    private final Random random;
    private final Snapshothall hall = new Snapshothall();

    private RandomTest(long seed) {
        random = new Random(seed);
    }

    public static void main(String[] args) {
        for (int seed = 0; seed < 400; seed++) {
            new RandomTest(seed).play();
        }
        Calls.end("RandomTest");
    }

    private void play() {
        Calls.type(hall, "create table t(k int,a int,w word,primary(k));create table u(k int,a int,w word,primary(k),"
                + "check(k<>4),refer(a)to t);insert into t values(1,2,'a'),(2,null,'b'),(3,3,null);"
                + "create view v as select k,a,w from t;");
        hall.run();
        for (int i = 0; i < 150; i++) {
            String what = i % 2 == 0 ? script() : "a call";
            try {
                if (i % 2 == 0) {
                    hall.clearText();
                    Calls.type(hall, what);
                    boolean hasFault = hall.fault() != Snapshothall.NONE;
                    Calls.due("run of a fault " + what, ran(), !hasFault);
                    Calls.due("errors behind " + what, hall.errors(), 0);
                } else {
                    call(random.nextInt(18));
                }
            } catch (IllegalArgumentException | IllegalStateException | IndexOutOfBoundsException e) {
                String thrower = e.getStackTrace()[0].getClassName();
                Calls.due(e + " at " + what + " thrown by", thrower, "Snapshothall");
                Calls.due(e + " at " + what + " is of a class that the document names",
                        e.getClass() == IllegalArgumentException.class || e.getClass() == IllegalStateException.class
                                || e.getClass() == IndexOutOfBoundsException.class, true);
            }
        }
    }

    private boolean ran() {
        try {
            hall.run();
            return true;
        } catch (IllegalArgumentException e) {
            return false;
        }
    }

    private int argument() {
        switch (random.nextInt(8)) {
            case 0:
                return -1;
            case 1:
                return Integer.MAX_VALUE;
            case 2:
                return Integer.MIN_VALUE;
            default:
                return random.nextInt(8);
        }
    }

    private void call(int which) {
        switch (which) {
            case 0: hall.type(argument(), random.nextLong(), 65, 0, argument()); break;
            case 1: hall.result(argument(), argument()); break;
            case 2: hall.isNull(argument(), argument(), argument()); break;
            case 3: hall.cell(argument(), argument(), argument()); break;
            case 4: hall.outputByte(argument()); break;
            case 5: hall.session(argument(), argument()); break;
            case 6: hall.transaction(argument(), argument()); break;
            case 7: hall.isEdge(argument(), argument()); break;
            case 8: hall.order(argument()); break;
            case 9: hall.table(argument(), argument()); break;
            case 10: hall.spread(argument(), argument()); break;
            case 11: hall.version(argument(), argument(), argument()); break;
            case 12: hall.valueAt(argument(), argument(), argument()); break;
            case 13: hall.indexOf(argument(), argument()); break;
            case 14: hall.index(argument(), argument()); break;
            case 15: hall.entryAt(argument(), argument()); break;
            case 16: hall.setFuse(random.nextInt(3) == 0 ? random.nextInt(60) : argument(), random.nextBoolean()); break;
            default:
                hall.checksum();
                hall.meanVersions();
                hall.unseenShare();
                hall.tableOf(random.nextLong());
                if (hall.isDown()) {
                    hall.restart();
                }
                hall.checkpoint();
                hall.isSerial();
        }
    }

    private String pick(String... texts) {
        return texts[random.nextInt(texts.length)];
    }

    private String script() {
        StringBuilder script = new StringBuilder();
        for (int i = random.nextInt(3); i >= 0; i--) {
            String one = statement();
            if (script.length() + one.length() < 690) {
                script.append(pick("", "", "0:", "1:", "3:")).append(one).append(random.nextInt(30) == 0 ? "" : ";");
            }
        }
        return script.toString();
    }

    private String statement() {
        switch (random.nextInt(18)) {
            case 0:
                return "create table " + pick("t", "x", "y") + "(k int,a " + pick("int", "word") + ",w word,primary(k)"
                        + pick("", ",check(" + test(1) + ")") + pick("", ",unique(a,w)") + pick("", ",refer(a)to u") + ")";
            case 1:
                return "create view " + pick("v", "x", "y") + " as " + query(2);
            case 2:
                return pick("create index i on t(a)", "create index j on u(w,a)", "drop index i", "drop table u",
                        "drop view v", "drop view x", "drop table x");
            case 3:
            case 4:
                return "insert into " + pick("t", "u") + " values(" + random.nextInt(9) + "," + sum(1) + ","
                        + pick("'a'", "null") + ")";
            case 5:
                return "insert into " + pick("t", "u") + " " + query(2);
            case 6:
            case 7:
                return "update " + pick("t", "u") + " set " + pick("k", "a", "w") + "=" + sum(2) + pick("", " where " + test(2));
            case 8:
                return "delete from " + pick("t", "u") + pick("", " where " + test(2));
            case 9:
            case 10:
            case 11:
                return pick("", "", "explain ") + query(3);
            case 12:
                return pick("begin", "begin snapshot", "commit", "rollback", "vacuum", "analyze");
            case 13:
                return pick("save a", "save b", "rollback to a", "fetch c 2", "close c", "open c for " + query(2));
            default:
                StringBuilder pieces = new StringBuilder();
                for (int i = random.nextInt(12); i >= 0; i--) {
                    pieces.append(pick(PIECES)).append(pick("", " "));
                }
                return pieces.toString();
        }
    }

    private String query(int depth) {
        return block(depth) + pick("", "", " union " + block(depth), " except " + block(depth))
                + pick("", " order by 1", " order by 2 down,1") + pick("", " limit 3", " limit 2 offset 1");
    }

    private String block(int depth) {
        StringBuilder block = new StringBuilder("select ").append(pick("", "", "distinct "));
        block.append(pick("*", sum(depth - 1), sum(depth - 1) + "," + sum(depth - 1) + pick("", " as k")));
        block.append(" from ").append(source());
        for (int i = random.nextInt(3); i > 0; i--) {
            block.append(pick("," + source(), " join " + source() + " on " + test(depth - 1),
                    " left join " + source() + " on " + test(depth - 1)));
        }
        block.append(pick("", " where " + test(depth - 1))).append(pick("", "", " group by " + pick("k", "a", "w")));
        return block.append(pick("", "", "", " having " + test(depth - 1))).toString();
    }

    private String source() {
        return pick("t", "u", "v", "x", "t as x", "u as x", "v as y");
    }

    private String test(int depth) {
        switch (random.nextInt(depth <= 0 ? 3 : 10)) {
            case 0:
                return sum(depth - 1) + pick("=", "<", "<=", ">", ">=", "<>") + sum(depth - 1);
            case 1:
                return sum(depth - 1) + pick(" is null", " is not null");
            case 2:
                return "k=" + random.nextInt(5);
            case 3:
                return "not " + test(depth - 1);
            case 4:
                return "[" + test(depth - 1) + "]";
            case 5:
                return "exists(" + query(depth - 1) + ")";
            case 6:
                return sum(depth - 1) + pick("", " not") + " in(" + pick(query(depth - 1), sum(0) + "," + sum(0)) + ")";
            case 7:
                return sum(depth - 1) + " between " + sum(depth - 1) + " and " + sum(depth - 1);
            default:
                return test(depth - 1) + pick(" and ", " or ") + test(depth - 1);
        }
    }

    private String sum(int depth) {
        switch (depth <= 0 ? 0 : random.nextInt(7)) {
            case 1:
                return sum(depth - 1) + pick("+", "-", "*", "/", "%") + sum(depth - 1);
            case 2:
                return pick("- ", "") + "(" + sum(depth - 1) + ")";
            case 3:
                return "case when " + test(depth - 1) + " then " + sum(depth - 1) + " else " + sum(depth - 1) + " end";
            case 4:
                return "coalesce(" + sum(depth - 1) + "," + sum(depth - 1) + ")";
            case 5:
                return pick("count(*)", pick("count", "sum", "min", "max") + pick("(", "(distinct ") + sum(depth - 1) + ")");
            default:
                return pick("null", "'a'", "k", "a", "w", "t.k", "x.a", "" + random.nextInt(12));
        }
    }
}
