/** The example of README.md, as it stands there, with what it tells (promises 2, 5, 7, 9, 10, 13 to 16, 25 to 30, 33). */
public final class ExampleTest {
    private static final Snapshothall HALL = new Snapshothall();

    /** Types a text, up to 40 bytes a call, and does its script. */
    private static void run(String text) {
        for (int from = 0; from < text.length(); from += 40) {
            long[] five = new long[5];
            for (int i = from; i < Math.min(from + 40, text.length()); i++) {
                five[(i - from) / 8] = five[(i - from) / 8] << 8 | text.charAt(i);
            }
            HALL.type(five[0], five[1], five[2], five[3], five[4]);
        }
        HALL.run();
    }

    public static void main(String[] args) {
        run("create table t(k int,w word,primary(k));insert into t values(3,'c'),(1,'ab'),(2,null);");
        Calls.due("rows inserted", HALL.result(1, 2), 3);
        run("select k,w from t where k<3;");
        Calls.due("rows of the answer", HALL.result(0, 2), 2);
        Calls.due("the first row's k", HALL.cell(0, 0, 0), 1L);
        Calls.due("the first row's w", HALL.cell(0, 0, 1), 'a' * 256L + 'b');
        Calls.due("whether the second row's w is NULL", HALL.isNull(0, 1, 1), true);

        run("0:begin;1:begin;0:select count(*) from t;1:select count(*) from t;"
                + "0:insert into t values(4,'d');1:insert into t values(5,'e');0:commit;");
        Calls.due("the second insert's refusal", HALL.result(5, 1), Snapshothall.CONFLICT);
        Calls.due("the state of its transaction", HALL.transaction(4, 0), Snapshothall.ROLLED_BACK);
        Calls.due("whether the order holds", HALL.isSerial(), true);

        run("explain select w from t where k=2;");
        Calls.due("the plan", Calls.output(HALL), "0.0,2;");

        HALL.setFuse(3, false);
        run("delete from t;");
        Calls.due("the refusal as the power falls", HALL.result(0, 1), Snapshothall.POWER);
        Calls.due("versions behind the cut", HALL.restart(), 4);
        Calls.end("ExampleTest");
    }
}
