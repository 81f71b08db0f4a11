/** The bounds of section 2, and of promises 1 to 5: bytes, tokens, the grammar, its limits, the place of a fault. */
public final class TextEdgeTest {
    private static final String[] WORDS = ("create table index on view as drop insert into values update set where delete "
            + "from begin snapshot commit rollback to save open for fetch close explain vacuum analyze int word not null "
            + "primary unique check refer union except order by limit offset select distinct join left group having down "
            + "or and exists is in between case when then else end coalesce count sum min max").split(" ");

    public static void main(String[] args) {
        bytes();
        bytesOfNumbersInTheirOrder();
        atMostSevenHundredBytes();
        anEmptyTextHasNoFault();
        clearing();
        nothingIsLeftOfAnEarlierText();
        namesHaveOneToEightLetters();
        namesAreNoWordsOfTheGrammar();
        numbersHaveOneToNineDigits();
        wordsHaveOneToEightLetters();
        digitsAreZeroToThree();
        blanksStandBetweenTokens();
        tokensAreAsLongAsTheyGo();
        signsThatBeginNoToken();
        textsThatEndTooEarly();
        whatOccursAnyNumberOfTimes();
        whatCanBeLeftOut();
        wordsThatBeginAStatement();
        alternatives();
        atMostFortyStatements();
        atMostSixColumns();
        atMostSixRules();
        atMostTenItems();
        atMostTenTuples();
        atMostThreeSources();
        atMostThreeGroupedBy();
        atMostThreeKeys();
        atMostSixValuesBehindIn();
        atMostThreeBlocks();
        limitsAreOfEachPartAlone();
        eightOpenInSums();
        eightOpenInTests();
        eightOpenInStatements();
        whatIsClosedIsNotOpen();
        whatIsNotCountedAsOpen();
        theFirstFaultIsTold();
        runOfAFault();
        Calls.end("TextEdgeTest");
    }

    // "bytes (32 to 126)"; "IllegalArgumentException if one of them is not 32 to 126"
    private static void bytes() {
        Snapshothall hall = new Snapshothall();
        for (int one = 1; one < 256; one++) {
            int code = one;
            if (one >= 32 && one <= 126) {
                Calls.due("type of " + one, hall.type(one, 0, 0, 0, 0), 1);
                hall.clearText();
            } else {
                Calls.throwsAlone(hall, "type of " + one, IllegalArgumentException.class, () -> hall.type(code, 0, 0, 0, 0));
            }
        }
        // In each of the numbers, and at each place of one.
        for (int number = 0; number < 5; number++) {
            for (int place = 0; place < 8; place++) {
                long[] n = new long[5];
                n[number] = 126L << 8 * place;
                Calls.due("126 in " + number, hall.type(n[0], n[1], n[2], n[3], n[4]), 1);
                hall.clearText();
                n[number] = 32L << 8 * place;
                Calls.due("32 in " + number, hall.type(n[0], n[1], n[2], n[3], n[4]), 1);
                hall.clearText();
                n[number] = 127L << 8 * place;
                Calls.refuses("127 in " + number, IllegalArgumentException.class, () -> hall.type(n[0], n[1], n[2], n[3], n[4]));
                n[number] = 31L << 8 * place;
                Calls.refuses("31 in " + number, IllegalArgumentException.class, () -> hall.type(n[0], n[1], n[2], n[3], n[4]));
            }
        }
        Calls.refuses("-1", IllegalArgumentException.class, () -> hall.type(-1, -1, -1, -1, -1));
        Calls.refuses("the least long", IllegalArgumentException.class, () -> hall.type(0, 0, Long.MIN_VALUE, 0, 0));
        Calls.due("nothing was typed", hall.clearText(), 0);
    }

    // "those of the numbers that are not 0, the first number first, in each the highest one first"
    private static void bytesOfNumbersInTheirOrder() {
        Snapshothall hall = new Snapshothall();
        // s a v e (blank) s ; over all numbers, with zeros ahead, between and behind.
        Calls.due("type", hall.type(0x7300610000000000L, 0x76L, 0, 0x0065002000730000L, 0x3b00000000000000L), 7);
        Calls.due("fault", hall.fault(), Snapshothall.NONE);
        Calls.due("run", hall.run(), 1);
        Calls.due("all zeros", hall.type(0, 0, 0, 0, 0), 0);
        long full = 0x2020202020202020L;
        Calls.due("forty", hall.type(full, full, full, full, full), 40);
    }

    // "The text is a row of at most 700 bytes"; "IllegalStateException if the text would have more than 700 bytes"
    private static void atMostSevenHundredBytes() {
        Snapshothall hall = new Snapshothall();
        long full = 0x2020202020202020L;
        for (int i = 0; i < 17; i++) {
            hall.type(full, full, full, full, full);
        }
        Calls.throwsAlone(hall, "forty more than 680", IllegalStateException.class,
                () -> hall.type(full, full, full, full, full));
        Calls.throwsAlone(hall, "21 more than 680", IllegalStateException.class,
                () -> hall.type(full, full, 0x2020202020L, 0, 0));
        Calls.due("699", hall.type(full, full, 0x202020L, 0, 0), 699);
        Calls.throwsAlone(hall, "two more than 699", IllegalStateException.class, () -> hall.type(0, 0, 0x3b3bL, 0, 0));
        Calls.due("700", hall.type(0, 0, 0, 0, 32), 700);
        Calls.throwsAlone(hall, "one more than 700", IllegalStateException.class, () -> hall.type(32, 0, 0, 0, 0));
        Calls.due("none more than 700", hall.type(0, 0, 0, 0, 0), 700);
        // The exception that is listed first is thrown.
        Calls.throwsAlone(hall, "a wrong byte too many", IllegalArgumentException.class, () -> hall.type(32, 0, 0, 0, 31));
        Calls.due("fault", hall.fault(), Snapshothall.NONE);
        Calls.due("clearText", hall.clearText(), 700);
        // A text of 700 bytes is read to its end.
        String script = "begin;" + " ".repeat(687) + "commit;";
        Calls.type(hall, script.substring(0, 699));
        Calls.due("fault of 699", hall.fault(), 699);
        Calls.due("700", hall.type(';', 0, 0, 0, 0), 700);
        Calls.due("fault of 700", hall.fault(), Snapshothall.NONE);
        Calls.due("run of 700", hall.run(), 2);
        Calls.type(hall, "save " + " ".repeat(694) + "!");
        Calls.due("a fault at the last byte", hall.fault(), 699);
    }

    private static void anEmptyTextHasNoFault() {
        Snapshothall hall = new Snapshothall();
        Calls.due("fault", hall.fault(), Snapshothall.NONE);
        Calls.due("run", hall.run(), 0);
        Calls.due("results", hall.results(), 0);
        hall.type(32, 0, 0, 0, 0);
        Calls.due("fault of a blank", hall.fault(), Snapshothall.NONE);
        Calls.due("run of a blank", hall.run(), 0);
        Calls.due("the text is empty then", hall.clearText(), 0);
    }

    // "Empties the text. Returns its length before."
    private static void clearing() {
        Snapshothall hall = new Snapshothall();
        Calls.due("clearText of nothing", hall.clearText(), 0);
        hall.type(33, 0, 0, 0, 0);
        Calls.due("fault", hall.fault(), 0);
        Calls.due("clearText", hall.clearText(), 1);
        Calls.due("clearText again", hall.clearText(), 0);
        Calls.due("fault", hall.fault(), Snapshothall.NONE);
    }

    /** Bytes of an earlier text, which stood behind the end of this one, are none of it. */
    private static void nothingIsLeftOfAnEarlierText() {
        String[][] texts = {{"select 'abcd' from t;", "select 'abcd"}, {"select 'abcd' from t;", "select 'abc"},
            {"save abcdef;", "save abc"}, {"save abcdef;", "save abcdef"}, {"fetch c 123456;", "fetch c 123"},
            {"delete from t where a<=1;", "delete from t where a<"}, {"begin;commit;", "begin;"}, {"begin;", "begin"}};
        for (String[] one : texts) {
            Snapshothall hall = new Snapshothall();
            Calls.type(hall, one[0]);
            hall.fault();
            hall.clearText();
            Calls.type(hall, one[1]);
            Snapshothall fresh = new Snapshothall();
            Calls.type(fresh, one[1]);
            int due = one[1].contains("'") ? 7 : one[1].endsWith(";") ? Snapshothall.NONE : one[1].length();
            Calls.due("fault of " + one[1], fresh.fault(), due);
            Calls.due("fault of " + one[1] + " behind " + one[0], hall.fault(), due);
        }
        Snapshothall hall = new Snapshothall();
        Calls.done(hall, "create table t(k int,w word,primary(k));begin;save abcdefgh;");
        Calls.play(hall, "save abcd;rollback to abcd;rollback to abcdefgh;", "0", "0", "0");
        Calls.play(hall, "insert into t values(12345,'abcdef');insert into t values(123,'abc');select*from t;", "1", "1",
                "[123," + Calls.word("abc") + ";12345," + Calls.word("abcdef") + "]");
    }

    // "A name is 1 to 8 letters a to z"
    private static void namesHaveOneToEightLetters() {
        Calls.fault("save a;");
        Calls.fault("save abcdefgh;");
        Calls.fault("save ^abcdefghi;");
        Calls.fault("save ^abcdefghijklmnopqrstuvwxyz;");
        Calls.fault("save ^;");
        Calls.fault("save ^A;");
        Calls.fault("save a^B;");
        Calls.fault("save a^1;");
        Calls.fault("save ^1a;");
        Calls.fault("save ^_;");
        Calls.fault("save z;save zzzzzzzz;");
        // A row of more than 8 letters is none, whatever it begins with.
        Calls.fault("^rollbacks;");
        Calls.fault("^rollbackk;");
        Calls.fault("^commits;");
        Calls.fault("^commitsavea;");
    }

    // "that are no word in quotes of this grammar"
    private static void namesAreNoWordsOfTheGrammar() {
        Calls.due("words", WORDS.length, 65);
        for (String word : WORDS) {
            Calls.fault("save ^" + word + ";");
            if (!isUnit(word)) {
                Calls.fault("select ^" + word + ".a from t;");
            }
            if (word.length() < 8) {
                Calls.fault("save " + word + "q;");
            }
            Calls.fault("save q" + word.substring(1) + ";");
        }
        for (String name : "script statement column rule tuple query block item source key test all one sign term unit ref name digit number".split(" ")) {
            Calls.fault(name.length() > 8 ? "save ^" + name + ";" : "save " + name + ";");
        }
    }

    /** Whether a word can begin an item, or stand behind select. */
    private static boolean isUnit(String word) {
        return " null case coalesce count sum min max distinct ".contains(" " + word + " ");
    }

    // "A number has 1 to 9 digits."
    private static void numbersHaveOneToNineDigits() {
        Calls.fault("fetch c 0;fetch c 9;");
        Calls.fault("fetch c 999999999;");
        Calls.fault("fetch c 000000000;");
        Calls.fault("fetch c ^1000000000;");
        Calls.fault("fetch c ^0000000000;");
        Calls.fault("fetch c ^99999999999999999999;");
        Calls.fault("fetch c ^;");
        Calls.fault("select 1+^1234567890 from t;");
        Calls.fault("select a from t limit ^1234567890;");
        Calls.fault("select a from t limit 1 offset ^1234567890;");
        Calls.fault("select a from t order by ^1234567890;");
        Calls.fault("select a from t order by 123456789 limit 123456789 offset 123456789;");
    }

    // "A word is 1 to 8 letters between two signs '."
    private static void wordsHaveOneToEightLetters() {
        Calls.fault("select 'a' from t;");
        Calls.fault("select 'abcdefgh'from t;");
        Calls.fault("select ^'abcdefghi'from t;");
        Calls.fault("select ^''from t;");
        Calls.fault("select ^'from t;");
        Calls.fault("select ^'a from t;");
        Calls.fault("select ^'a");
        Calls.fault("select ^'");
        Calls.fault("select ^'a b'from t;");
        Calls.fault("select ^' a'from t;");
        Calls.fault("select ^'a 'from t;");
        Calls.fault("select ^'aB'from t;");
        Calls.fault("select ^'a1'from t;");
        Calls.fault("select 'a'^'b'from t;");
        Calls.fault("select 'a'^''from t;");
    }

    // "A digit is one of 0 to 3."
    private static void digitsAreZeroToThree() {
        Calls.fault("0:begin;1:begin;2:begin;3:begin;");
        Calls.fault("^4:begin;");
        Calls.fault("begin;^9:begin;");
        Calls.fault("^00:begin;");
        Calls.fault("^01:begin;");
        Calls.fault("^10:begin;");
        Calls.fault("^33:begin;");
        Calls.fault("0 : begin ;");
        Calls.fault("0^;");
        Calls.fault("0^begin;");
        Calls.fault("0:^:begin;");
        Calls.fault("0:^1:begin;");
        Calls.fault("0:^;");
        Calls.fault("^:begin;");
        Calls.fault("begin;0:^");
        Calls.fault("begin;0^");
    }

    // "Blanks can stand between tokens and mean nothing else"
    private static void blanksStandBetweenTokens() {
        Calls.fault("select distinct a,t.b from t as x where a<=1 and[b='c']order by 1 down limit 2;");
        Calls.fault("  select  distinct  a  ,  t  .  b  from  t  as  x  where  a  <=  1  and  [  b  =  'c'  ]  order  by  1  "
                + "down  limit  2  ;  ");
        Calls.fault("insert into t values(1,-2,- 3,-4);");
        Calls.fault("select count(*),count ( * )from t;");
        Calls.fault("^begi n;");
        Calls.fault("fetch c 1 ^2;");
        Calls.fault("delete from t where a< ^=1;");
        Calls.fault("delete from t where a> ^=1;");
        Calls.fault("delete from t where a< ^>1;");
        // No blank is needed where a token ends by itself.
        Calls.fault("select 1from t;");
        Calls.fault("select'a'from t;");
        Calls.fault("select*from t;");
        Calls.fault("^selecta from t;");
        Calls.fault("select a ^fromt;");
        Calls.fault("0:begin;1:begin;");
    }

    // "numbers, rows of letters and signs are as long as they go"
    private static void tokensAreAsLongAsTheyGo() {
        Calls.fault("delete from t where a<>1;");
        Calls.fault("delete from t where a<=1 and a>=1;");
        Calls.fault("delete from t where a<>^=1;");
        Calls.fault("delete from t where a<=^>1;");
        Calls.fault("delete from t where a>=^=1;");
        Calls.fault("delete from t where a=^>1;");
        Calls.fault("delete from t where a=^<1;");
        Calls.fault("delete from t where a>^<1;");
        Calls.fault("delete from t where a<-1;");
        Calls.fault("select a--1 from t;");
        Calls.fault("select 12^ab from t;");
    }

    // "(of a sign that begins no token ...: its first byte)"
    private static void signsThatBeginNoToken() {
        for (int one = 32; one <= 126; one++) {
            String sign = "" + (char) one;
            boolean isKnown = one == ' ' || one >= 'a' && one <= 'z' || one >= '0' && one <= '9'
                    || "()[],;:.*/%+-=<>'".contains(sign);
            if (one == '^') {
                Snapshothall hall = new Snapshothall();
                hall.type('a', one, 0, 0, 0);
                Calls.due("fault of a name without a statement", hall.fault(), 0);
                hall.clearText();
                hall.type(0x7361766520L, one, 0, 0, 0);
                Calls.due("fault of save ^", hall.fault(), 5);
            } else if (!isKnown) {
                Calls.fault("begin;^" + sign);
                Calls.fault("save ^" + sign + "a;");
                Calls.fault("select a^" + sign + "1 from t;");
                Calls.fault("select a from t where a^" + sign + "=1;");
                Calls.fault("select a from t^" + sign);
            }
        }
    }

    // "or its length, if it ends too early"
    private static void textsThatEndTooEarly() {
        // Each part of a script that ends behind a token, but is no script as yet.
        String script = "select a,'b'from t where a<=1;";
        int[] ends = {6, 7, 8, 9, 12, 16, 17, 18, 19, 24, 25, 26, 27, 28, 29};
        for (int end : ends) {
            Calls.fault(script.substring(0, end) + "^");
        }
        Calls.fault(script);
        Calls.fault("^b");
        Calls.fault("begin^");
        Calls.fault("begin   ^");
        Calls.fault("begin;commit^");
        Calls.fault("create table t(^");
        Calls.fault("create table t(a int,b int,c int,d int,e int,f int,^");
        Calls.fault("create table t(a int,^");
        Calls.fault("insert into t values(1,^");
        Calls.fault("select a from t order by 1,^");
        Calls.fault("select a from t,^");
        Calls.fault("select a from t left ^");
        Calls.fault("select a from t where not^");
        Calls.fault("select a from t where a is not^");
        Calls.fault("select case when a=1 then 2 else 3^");
        Calls.fault("fetch c^");
        Calls.fault("rollback to^");
    }

    // "Braces enclose what can occur any number of times"
    private static void whatOccursAnyNumberOfTimes() {
        Calls.fault("");
        Calls.fault("begin;");
        Calls.fault("insert into t values(" + Calls.many("1", ",", 300) + ");");
        Calls.fault("update t set " + Calls.many("a=1", ",", 160) + ";");
        Calls.fault("delete from t where " + Calls.many("1=1", "and ", 90) + ";");
        Calls.fault("delete from t where " + Calls.many("1=1", "or ", 100) + ";");
        Calls.fault("select " + Calls.many("1", "+", 300) + " from t;");
        Calls.fault("select " + Calls.many("1", "-", 300) + " from t;");
        Calls.fault("select " + Calls.many("1", "*", 100) + "/" + Calls.many("1", "%", 100) + " from t;");
        Calls.fault("create index i on t(" + Calls.many("a", ",", 300) + ");");
        Calls.fault("create table t(a int,unique(" + Calls.many("a", ",", 300) + "));");
        Calls.fault("create index i on t(a^;");
        Calls.fault("create index i on t(^);");
        Calls.fault("create index i on t(a,^);");
        Calls.fault("create table t(a int,unique(^));");
        Calls.fault("update t set^;");
        Calls.fault("update t set a=1,^;");
        Calls.fault("insert into t values^;");
        Calls.fault("insert into t values(1),^;");
        Calls.fault("insert into t values(1,^);");
        Calls.fault("select a, ^from t;");
        Calls.fault("select 1+^;");
        Calls.fault("select 1*^;");
        Calls.fault("delete from t where 1=1 or^;");
        Calls.fault("delete from t where 1=1 and^;");
        Calls.fault("delete from t where a in(^);");
        Calls.fault("delete from t where a in(1,^);");
        Calls.fault("select a from t group by^;");
        Calls.fault("select a from t group by a,^;");
        Calls.fault("select a from t union^;");
    }

    // "square brackets what can be left out"
    private static void whatCanBeLeftOut() {
        Calls.fault("begin snapshot;begin;rollback;rollback to a;");
        Calls.fault("create table t(a int not null,b word);");
        Calls.fault("create table t(a int not ^);");
        Calls.fault("create table t(a int ^null);");
        Calls.fault("update t set a=1;update t set a=1 where a=1;delete from t;delete from t where a=1;");
        Calls.fault("select a from t;select distinct a from t;select distinct*from t;select distinct ^distinct a from t;");
        Calls.fault("select a as b from t as c;select a ^b from t;");
        Calls.fault("select a from t ^c;");
        Calls.fault("select a from t join u on a=1;select a from t left join u on a=1;select a from t join u^;");
        Calls.fault("select a from t left ^u on a=1;");
        Calls.fault("select a from t,u ^on a=1;");
        Calls.fault("select a from t having a=1;select a from t group by a;select a from t group by a having a=1;");
        Calls.fault("select a from t having a=1 ^group by a;");
        Calls.fault("select a from t group by a ^where a=1;");
        Calls.fault("select a from t order by 1;select a from t order by 1 down;select a from t order by 1 down ^down;");
        Calls.fault("select a from t limit 1;select a from t limit 1 offset 1;select a from t ^offset 1;");
        Calls.fault("select a from t limit 1 ^order by 1;");
        Calls.fault("select a from t order by 1 ^union select a from t;");
        Calls.fault("delete from t where a is null;delete from t where a is not null;delete from t where a is null^.b;");
        Calls.fault("delete from t where a in(1)or a not in(1)or a between 1 and 2 or a not between 1 and 2;");
        Calls.fault("delete from t where a not ^is null;");
        Calls.fault("select t.a from t;select a from t group by t.a;select t. ^from t;");
        Calls.fault("select count(distinct a),sum(distinct a),min(distinct a),max(distinct a)from t;");
        Calls.fault("select count(distinct ^*)from t;");
        Calls.fault("select count(^)from t;");
        Calls.fault("select max(^*)from t;");
    }

    private static void wordsThatBeginAStatement() {
        String begins = " create drop insert update delete select begin commit rollback save open fetch close explain vacuum "
                + "analyze ";
        String whole = " begin commit rollback vacuum analyze ";
        for (String word : WORDS) {
            if (whole.contains(" " + word + " ")) {
                Calls.fault(word + ";");
            } else if (begins.contains(" " + word + " ")) {
                Calls.fault(word + "^;");
            } else {
                Calls.fault("^" + word + ";");
                Calls.fault("commit;0:^" + word + " a;");
            }
        }
    }

    // "a bar separates alternatives"
    private static void alternatives() {
        Calls.fault("create table t(a int);create index i on t(a);create view v as select*from t;");
        Calls.fault("create ^t;");
        Calls.fault("create ^drop;");
        Calls.fault("drop table t;drop index i;drop view v;");
        Calls.fault("drop ^t;");
        Calls.fault("insert into t values(1);insert into t select 1 from t;insert into t ^set a=1;");
        Calls.fault("insert ^t;");
        Calls.fault("delete ^t;");
        Calls.fault("commit;save a;close a;open a for select a from t;fetch a 1;explain select a from t;vacuum;analyze;");
        Calls.fault("open a ^select a from t;");
        Calls.fault("open a for ^begin;");
        Calls.fault("explain ^vacuum;");
        Calls.fault("create view v as ^explain select a from t;");
        Calls.fault("^t;");
        Calls.fault("^;");
        Calls.fault("begin;^;");
        Calls.fault("^table t;");
        Calls.fault("^union select a from t;");
        Calls.fault("create table t(a int,b word,primary(a),unique(a,b),check(a=1),refer(a)to t);");
        Calls.fault("create table t(a ^null);");
        Calls.fault("create table t(a int,primary(a^,b));");
        Calls.fault("create table t(a int,refer(a^,b)to t);");
        Calls.fault("create table t(a int,refer(a)^);");
        Calls.fault("create table t(a int,check(a^));");
        Calls.fault("create table t(a int,primary(a),^b int);");
        Calls.fault("delete from t where a=1 or a<1 or a<=1 or a>1 or a>=1 or a<>1;");
        Calls.fault("delete from t where a+^;");
        Calls.fault("delete from t where a^;");
        Calls.fault("delete from t where (a)^;");
        Calls.fault("delete from t where (a^=1);");
        Calls.fault("delete from t where [a^];");
        Calls.fault("delete from t where exists ^select;");
        Calls.fault("delete from t where exists(^a);");
        Calls.fault("delete from t where a in ^a;");
        Calls.fault("delete from t where a between 1^;");
        Calls.fault("delete from t where a between 1 ^or 2;");
        Calls.fault("select 1,'a',null,a,t.a,-a,(a),case when a=1 then 1 else 2 end,coalesce(a,1),count(*)from t;");
        Calls.fault("select case ^a when 1 then 1 end from t;");
        Calls.fault("select case when a=1 then 1 ^end from t;");
        Calls.fault("select case when a ^then 1 else 2 end from t;");
        Calls.fault("select coalesce(a^)from t;");
        Calls.fault("select coalesce(a,b^,c)from t;");
        Calls.fault("select count(a^,b)from t;");
        Calls.fault("select ^+a from t;");
        Calls.fault("select (^)from t;");
        Calls.fault("select (a^,b)from t;");
        Calls.fault("select *^,a from t;");
        Calls.fault("select a,^*from t;");
        Calls.fault("select t.^*from t;");
        Calls.fault("select a^;");
        Calls.fault("select a from ^(select a from t);");
    }

    // "At most 40 statements": the token with which one more would begin cannot stand
    private static void atMostFortyStatements() {
        String forty = Calls.many("commit;", "", 40);
        Calls.fault(Calls.many("commit;", "", 39));
        Calls.fault(forty);
        Calls.fault(forty + "   ");
        Calls.fault(forty + "^commit;");
        Calls.fault(forty + "^commit");
        Calls.fault(forty + " ^0:commit;");
        Calls.fault(forty + "^4");
        Calls.fault(forty + "^;");
        Calls.fault(forty + "^!");
        Calls.fault(forty + "^abcdefghi");
        Snapshothall hall = new Snapshothall();
        Calls.type(hall, forty);
        Calls.due("run of forty", hall.run(), 40);
        Calls.due("results of forty", hall.results(), 40);
        Calls.due("the last one", hall.result(39, 3), 39 * 7);
        Calls.refuses("one behind", IndexOutOfBoundsException.class, () -> hall.result(40, 0));
    }

    // "6 columns ... of a table": its comma
    private static void atMostSixColumns() {
        String five = "create table t(a int,b int,c int,d int,e int";
        String six = five + ",f int not null";
        Calls.fault("create table t(a int);");
        Calls.fault(five + ");");
        Calls.fault(six + ");");
        Calls.fault(six + ",primary(a));");
        Calls.fault(six + "^,g int);");
        Calls.fault(six + "  ^,  g int);");
        Calls.fault(six + "^,g");
        Calls.fault(six + "^,g int,h int,primary(a));");
        Calls.fault(six + "^,a;");
        Calls.fault(five + ",f int^,g int,primary(a));");
        // With the comma a rule could begin: another token behind it is told itself.
        Calls.fault(six + ",^);");
        Calls.fault(six + ",^");
        Calls.fault(six + ",^,g int);");
        Calls.fault(six + ",^5);");
        Calls.fault(six + ",^'a');");
        Calls.fault(six + ",^!);");
        Calls.fault(six + ",^abcdefghi int);");
        Calls.fault(six + ",^table);");
        Calls.fault(six + ",^int);");
        Calls.fault(six + ",primary^;");
        Calls.fault(six + ",primary(a),^g int);");
        Calls.fault(five + ",primary(a),^g int);");
        Calls.fault(five + ",primary(a) ^g);");
        Snapshothall hall = new Snapshothall();
        Calls.due("type", hall.type(7165901426338898036L, 7017290350988634209L, 2335519327008202857L,
                7959035245727673972L, 3198717272536656997L), 40);
        Calls.due("type", hall.type(2335519327008465001L, 7959035262907543156L, 3202185132192658041L, 173428779323L, 0), 69);
        Calls.due("fault of issue 6", hall.fault(), 50);
        Calls.throwsAlone(hall, "run of issue 6", IllegalArgumentException.class, hall::run);
    }

    // "and 6 rules of a table": its comma
    private static void atMostSixRules() {
        String[] rules = {"primary(a)", "unique(a)", "unique(a,a)", "check(a=1)", "refer(a)to t"};
        for (String rule : rules) {
            String six = "create table t(a int," + Calls.many(rule, ",", 6);
            Calls.fault(six + ");");
            for (String more : rules) {
                Calls.fault(six + "^," + more + ");");
            }
            Calls.fault(six + "^,a int);");
            Calls.fault(six + "^,);");
            Calls.fault(six + "^,");
        }
        String all = "create table t(a int,b int,c int,d int,e int,f int," + Calls.many("unique(a)", ",", 6);
        Calls.fault(all + ");");
        Calls.fault(all + "^,unique(a));");
        Calls.fault(all + "^,g int);");
        Calls.fault("create table t(a int," + Calls.many("unique(a)", ",", 5) + ");");
        Calls.fault("create table t(a int," + Calls.many("unique(a)", ",", 5) + ",^a int);");
    }

    // "10 items"
    private static void atMostTenItems() {
        Calls.fault("select " + Calls.many("a as b", ",", 9) + " from t;");
        Calls.fault("select " + Calls.many("a as b", ",", 10) + " from t;");
        Calls.fault("select " + Calls.many("a as b", ",", 10) + "^,a from t;");
        Calls.fault("select distinct " + Calls.many("a", ",", 10) + "^,");
        Calls.fault("select " + Calls.many("a", ",", 10) + "^,*from t;");
        Calls.fault("select 1 from t union select " + Calls.many("1", ",", 10) + "^,1 from t;");
    }

    // "10 tuples"
    private static void atMostTenTuples() {
        Calls.fault("insert into t values" + Calls.many("(1)", ",", 9) + ";");
        Calls.fault("insert into t values" + Calls.many("(1)", ",", 10) + ";");
        Calls.fault("insert into t values" + Calls.many("(1)", ",", 10) + "^,(1);");
        Calls.fault("insert into t values" + Calls.many("(1)", ",", 10) + "^,");
        Calls.fault("insert into t values" + Calls.many("(1)", ",", 9) + ",^");
    }

    // "3 sources of a block": its comma, or its join, left
    private static void atMostThreeSources() {
        for (String two : new String[] {"t,t", "t join t on 1=1", "t left join t on 1=1", "t as a,t as b"}) {
            Calls.fault("select 1 from " + two + ",t;");
            Calls.fault("select 1 from " + two + " join t on 1=1;");
            Calls.fault("select 1 from " + two + " left join t on 1=1;");
            for (String three : new String[] {two + ",t", two + " join t on 1=1", two + " left join t on 1=1"}) {
                Calls.fault("select 1 from " + three + "^,t;");
                Calls.fault("select 1 from " + three + " ^join t on 1=1;");
                Calls.fault("select 1 from " + three + " ^left join t on 1=1;");
                Calls.fault("select 1 from " + three + " ^left");
                Calls.fault("select 1 from " + three + "^,");
            }
        }
    }

    // "3 refs behind group by"
    private static void atMostThreeGroupedBy() {
        Calls.fault("select 1 from t group by a,t.b;");
        Calls.fault("select 1 from t group by a,t.b,c;");
        Calls.fault("select 1 from t group by a,t.b,c^,d;");
        Calls.fault("select 1 from t group by a,a,a^,a having 1=1;");
        Calls.fault("select 1 from t group by ^1;");
    }

    // "3 keys"
    private static void atMostThreeKeys() {
        Calls.fault("select 1 from t order by 1,2 down;");
        Calls.fault("select 1 from t order by 1,2 down,3;");
        Calls.fault("select 1 from t order by 1,2,3 down limit 1;");
        Calls.fault("select 1 from t order by 1,2 down,3^,4;");
        Calls.fault("select 1 from t order by 1,1,1 down^,1;");
        Calls.fault("select 1 from t order by ^a;");
    }

    // "6 values behind in"
    private static void atMostSixValuesBehindIn() {
        Calls.fault("delete from t where a in(1);");
        Calls.fault("delete from t where a in(" + Calls.many("1", ",", 5) + ");");
        Calls.fault("delete from t where a in(" + Calls.many("1+1", ",", 6) + ");");
        Calls.fault("delete from t where a in(" + Calls.many("1+1", ",", 6) + "^,1);");
        Calls.fault("delete from t where a not in(" + Calls.many("1", ",", 6) + "^,1);");
        Calls.fault("delete from t where a in(select a from t,^1);");
    }

    // "3 blocks of a query": its union or except
    private static void atMostThreeBlocks() {
        String one = "select 1 from t";
        for (String first : new String[] {" union ", " except "}) {
            for (String second : new String[] {" union ", " except "}) {
                Calls.fault(one + first + one + ";");
                Calls.fault(one + first + one + second + one + ";");
                Calls.fault(one + first + one + second + one + " order by 1;");
                Calls.fault(one + first + one + second + one + " ^union " + one + ";");
                Calls.fault(one + first + one + second + one + " ^except " + one + ";");
                Calls.fault("insert into t " + one + first + one + second + one + " ^except " + one + ";");
            }
        }
    }

    private static void limitsAreOfEachPartAlone() {
        String three = "select 1 from t,t,t";
        Calls.fault("select 1 from t,t,t where exists(" + three + ")and exists(" + three + " where exists(" + three + "));");
        Calls.fault(three + " union " + three + " union " + three + ";");
        String blocks = "select 1 from t union select 1 from t union select 1 from t";
        Calls.fault("select 1 from t where exists(" + blocks + ")union select 1 from t union select 1 from t where 1 in("
                + blocks + ");");
        Calls.fault("select " + Calls.many("1", ",", 10) + " from t where exists(select " + Calls.many("1", ",", 10)
                + " from t);");
        Calls.fault("delete from t where a in(1,2,3,4,5,6)or a in(1,2,3,4,5,6);");
        Calls.fault("delete from t where a in(1,2,3,4,5,case when a in(1,2,3,4,5,6)then 1 else 2 end);");
        Calls.fault("select 1 from t where exists(select 1 from t group by a,b,c order by 1,2,3)group by a,b,c order by 1,2,3;");
        Calls.fault("create table t(a int,b int,c int,d int,e int,f int);create table t(a int,b int,c int,d int,e int,f int);");
    }

    private static void sums(int outer, String inner, boolean isLet) {
        String open = Calls.many("(", "", outer);
        Calls.fault("select " + open + (isLet ? inner.replace("^", "") : inner) + Calls.many(")", "", outer) + " from t;");
    }

    // "Nor can the 9th of those that are open at one time: round ... brackets of whatever kind, case up to its end ...
    // and the minus of a unit"
    private static void eightOpenInSums() {
        String[] inners = {"^(1)", "^-1", "^case when 1=1 then 1 else 2 end", "coalesce^(1,2)", "count^(*)", "count^(1)",
            "count^(distinct 1)", "sum^(1)", "min^(1)", "max^(1)"};
        for (String inner : inners) {
            sums(7, inner, true);
            sums(8, inner, false);
            sums(8, "1", true);
        }
        for (String[] part : new String[][] {{"-", "1", ""}, {"case when 1=1 then ", "1", " else 2 end"},
            {"case when 1=1 then 1 else ", "1", " end"}, {"case when ", "1=1", " then 1 else 2 end=1"},
            {"coalesce(", "1", ",2)"}, {"coalesce(1,", "1", ")"}, {"max(", "1", ")"}, {"(", "1", ")"}}) {
            boolean isTest = part[1].equals("1=1");
            String begin = isTest ? "delete from t where " : "select ";
            String end = isTest ? ";" : " from t;";
            for (int n = 7; n <= 8; n++) {
                Calls.fault(begin + Calls.many(part[0], "", n) + part[1] + Calls.many(part[2], "", n) + end);
            }
            int at = part[0].indexOf('(');
            String ninth = at < 0 ? "^" + part[0] : part[0].substring(0, at) + "^" + part[0].substring(at);
            Calls.fault(begin + Calls.many(part[0], "", 8) + ninth + part[1] + Calls.many(part[2], "", 9) + end);
        }
    }

    // "round and square brackets of whatever kind ..., a not ahead of a test"
    private static void eightOpenInTests() {
        String[] inners = {"^[1=1]", "^not 1=1", "exists^(select 1 from t)", "1 in^(1)", "1 in^(select 1 from t)",
            "1 not in^(1,2)", "^(1)=1", "1=^(1)", "^-1=1", "1 between ^-1 and 1", "1 between 1 and ^-1", "1 in^(-1)",
            "^case when 1=1 then 1 else 2 end=1", "coalesce^(1,2)is null"};
        for (String inner : inners) {
            for (String outer : new String[] {"[", "not "}) {
                String close = outer.equals("[") ? "]" : "";
                int deep = inner.equals("1 in^(-1)") ? 6 : 7;
                Calls.fault("delete from t where " + Calls.many(outer, "", deep) + inner.replace("^", "")
                        + Calls.many(close, "", deep) + ";");
                Calls.fault("delete from t where " + Calls.many(outer, "", 8) + inner + Calls.many(close, "", 8) + ";");
                Calls.fault("select 1 from t join t on " + Calls.many(outer, "", 8) + inner + Calls.many(close, "", 8) + ";");
                Calls.fault("select 1 from t having " + Calls.many(outer, "", 8) + inner + Calls.many(close, "", 8) + ";");
            }
        }
        String query = "exists(select 1 from t where ";
        Calls.fault("delete from t where " + Calls.many(query, "", 8) + "1=1" + Calls.many(")", "", 8) + ";");
        Calls.fault("delete from t where " + Calls.many(query, "", 8) + "exists^(select 1 from t where 1=1"
                + Calls.many(")", "", 9) + ";");
        Calls.fault("select 1 from t where not[exists(select(case when not[-1=1]then 1 else 2 end)from t)];");
        Calls.fault("select 1 from t where not[exists(select(case when not[-^(1)=1]then 1 else 2 end)from t)];");
    }

    // The brackets of statements count as well.
    private static void eightOpenInStatements() {
        Calls.fault("insert into t values(" + Calls.many("(", "", 7) + "1" + Calls.many(")", "", 8) + ";");
        Calls.fault("insert into t values(" + Calls.many("(", "", 7) + "^(1" + Calls.many(")", "", 9) + ";");
        Calls.fault("insert into t values(1),(" + Calls.many("(", "", 7) + "^-1" + Calls.many(")", "", 8) + ";");
        Calls.fault("create table t(a int,check(" + Calls.many("[", "", 6) + "1=1" + Calls.many("]", "", 6) + "));");
        Calls.fault("create table t(a int,check(" + Calls.many("[", "", 6) + "^[1=1" + Calls.many("]", "", 7) + "));");
        Calls.fault("create table t(a int,primary(a),unique(a),refer(a)to t,check(" + Calls.many("-", "", 6) + "^-1=1));");
        Calls.fault("create view v as select " + Calls.many("(", "", 8) + "1" + Calls.many(")", "", 8) + " from t;");
        Calls.fault("create view v as select " + Calls.many("(", "", 8) + "^(1" + Calls.many(")", "", 9) + " from t;");
        Calls.fault("update t set a=" + Calls.many("(", "", 8) + "1" + Calls.many(")", "", 8) + ";");
        Calls.fault("update t set a=" + Calls.many("(", "", 8) + "^(1" + Calls.many(")", "", 9) + ";");
    }

    private static void whatIsClosedIsNotOpen() {
        String eight = Calls.many("(", "", 8) + "1" + Calls.many(")", "", 8);
        String minus = Calls.many("-", "", 8) + "1";
        String choice = Calls.many("case when 1=1 then ", "", 8) + "1" + Calls.many(" else 1 end", "", 8);
        Calls.fault("select " + eight + "+" + eight + "," + eight + "*" + minus + "-" + minus + "," + choice + "," + minus
                + " from t;");
        Calls.fault("delete from t where " + Calls.many("not ", "", 8) + "1=1 and " + Calls.many("not ", "", 8) + "1=1 or "
                + Calls.many("not ", "", 8) + "1=1;");
        Calls.fault("delete from t where " + Calls.many("[", "", 8) + "1=1" + Calls.many("]", "", 8) + "and "
                + Calls.many("[", "", 8) + "1=1" + Calls.many("]", "", 8) + ";delete from t where " + eight + "=1;");
        Calls.fault("insert into t values(-------1,-------1),(-------1);");
        Calls.fault("insert into t values(-------1,-------^-1),(-------1);");
        // A minus is closed behind its unit, a not behind its test, with all that is in it.
        Calls.fault("select -(((((((1)))))))+((((((((1))))))))from t;");
        Calls.fault("delete from t where not(((((((1)))))))=(((((((1)))))))and((((((((1))))))))=1;");
        Calls.fault("delete from t where not(((((((1)))))))=(((((((^(1))))))));");
    }

    // "(none of the others)": no other not, no minus between terms
    private static void whatIsNotCountedAsOpen() {
        Calls.fault("select " + Calls.many("(", "", 8) + "1-1-1" + Calls.many(")", "", 8) + " from t;");
        Calls.fault("delete from t where " + Calls.many("[", "", 8) + "1 is not null" + Calls.many("]", "", 8) + ";");
        Calls.fault("delete from t where " + Calls.many("[", "", 8) + "1 not between 1 and 2" + Calls.many("]", "", 8) + ";");
        Calls.fault("delete from t where " + Calls.many("[", "", 7) + "1 not in(1)" + Calls.many("]", "", 7) + ";");
        Calls.fault("delete from t where " + Calls.many("[", "", 8) + "1=1 and 1=1 or 1=1" + Calls.many("]", "", 8) + ";");
        Calls.fault("create table t(a int not null,b int not null,check(" + Calls.many("[", "", 6) + "a is not null"
                + Calls.many("]", "", 6) + "));");
    }

    // "the place of the first token that cannot stand where it stands"
    private static void theFirstFaultIsTold() {
        Calls.fault("begin;^x;y;z;");
        Calls.fault("select a from t where ^order by !;");
        Calls.fault("select a ^! from t;");
        Calls.fault("^begun;!");
        Calls.fault("begin;begin ^1;'");
        Calls.fault("fetch c ^x 1234567890;");
        Calls.fault("begin;commit;  ^'");
    }

    // "IllegalArgumentException if the text has a fault"
    private static void runOfAFault() {
        Snapshothall hall = new Snapshothall();
        Calls.done(hall, "create table t(k int,primary(k));insert into t values(1);begin;");
        Calls.run(hall, "select*from t;explain select*from t;");
        Calls.type(hall, "delete from t;commit");
        Calls.throwsAlone(hall, "run of a fault", IllegalArgumentException.class, hall::run);
        Calls.due("text", hall.type(';', 0, 0, 0, 0), 21);
        Calls.due("run", hall.run(), 2);
        Calls.due("text behind", hall.clearText(), 0);
    }
}
