/** The bounds of section 5: TRUE, FALSE and UNKNOWN in each test, NULL and division in sums. */
public final class SumEdgeTest {
    private static final int FALSE = 0, TRUE = 1, UNKNOWN = 2;
    /** Tests that are FALSE, TRUE and UNKNOWN. */
    private static final String[] TESTS = {"1=2", "1=1", "1=null"};
    private static Snapshothall hall;
    private static int asked;

    public static void main(String[] args) {
        signsAreUnknownByNull();
        signsAtTheirBounds();
        isNullIsTrueOrFalse();
        notTurnsTrueAndFalse();
        andIsFalseIfOnePartIs();
        orIsTrueIfOnePartIs();
        notIsAheadOfAndAheadOfOr();
        inIsTrueUnknownOrFalse();
        inOfAQuery();
        inOfNone();
        betweenAtItsBounds();
        existsIfItHasARow();
        caseIsItsFirstBranchIfTrue();
        coalesceIsItsFirstPartIfNotNull();
        sumsAreNullIfAPartIs();
        divisionByZeroIsNull();
        divisionIsRoundedTowardZero();
        sumsAreWorkedOutFromTheLeft();
        Calls.end("SumEdgeTest");
    }

    /** Asks a query, each fortieth time in a new hall, as one has no room for so many. */
    private static String tell(String query) {
        if (asked % 40 == 0) {
            hall = new Snapshothall();
            Calls.done(hall, "create table o(k int,n int,w word,primary(k));insert into o values(1,null,'a');"
                    + "create table e(k int,primary(k));create table t(k int,a int,primary(k));"
                    + "insert into t values(1,1),(2,null),(3,3);");
        }
        asked++;
        return Calls.tell(hall, query);
    }

    /** A test is told as what stays by it, and by not of it. */
    private static void test(String test, int want) {
        String is = tell("select 1 from o where " + test + ";");
        Calls.due(test + " stays", is, want == TRUE ? "[1]" : "[]");
        String isNot = tell("select 1 from o where not[" + test + "];");
        Calls.due("not[" + test + "] stays", isNot, want == FALSE ? "[1]" : "[]");
        String chosen = tell("select case when " + test + " then 'y' else 'n' end from o;");
        Calls.due("case of " + test, chosen, want == TRUE ? "[121]" : "[110]");
    }

    private static void sum(String sum, String want) {
        Calls.due(sum, tell("select " + sum + " from o;"), "[" + want + "]");
    }

    // "A sign is UNKNOWN if one of its sides is NULL."
    private static void signsAreUnknownByNull() {
        for (String sign : new String[] {"=", "<", "<=", ">", ">=", "<>"}) {
            test("1" + sign + "null", UNKNOWN);
            test("null" + sign + "1", UNKNOWN);
            test("null" + sign + "null", UNKNOWN);
            test("n" + sign + "n", UNKNOWN);
            test("w" + sign + "null", UNKNOWN);
            test("k" + sign + "1/0", UNKNOWN);
        }
    }

    private static void signsAtTheirBounds() {
        String[] signs = {"=", "<", "<=", ">", ">=", "<>"};
        boolean[][] due = {{false, true, true, false, false, true}, {true, false, true, false, true, false},
            {false, false, false, true, true, true}};
        for (int i = 0; i < 3; i++) {
            for (int s = 0; s < signs.length; s++) {
                test(i + signs[s] + "1", due[i][s] ? TRUE : FALSE);
                test("'" + "abc".charAt(i) + "'" + signs[s] + "'b'", due[i][s] ? TRUE : FALSE);
            }
        }
        test("'ab'<'b'", TRUE);
        test("'a'<'ab'", TRUE);
        test("'zz'<'zza'", TRUE);
        test("'b'<'abcdefgh'", FALSE);
        test("-1<0", TRUE);
        test("-1>-2", TRUE);
    }

    // "is null is TRUE or FALSE."
    private static void isNullIsTrueOrFalse() {
        test("n is null", TRUE);
        test("n is not null", FALSE);
        test("k is null", FALSE);
        test("k is not null", TRUE);
        test("1/0 is null", TRUE);
        test("n+1 is not null", FALSE);
        test("w is null", FALSE);
        test("null is null", TRUE);
    }

    // "not, in front or within, turns TRUE and FALSE"
    private static void notTurnsTrueAndFalse() {
        for (int i = 0; i < 3; i++) {
            int turned = i == UNKNOWN ? UNKNOWN : TRUE - i;
            test(TESTS[i], i);
            test("not " + TESTS[i], turned);
            test("not not " + TESTS[i], i);
            test("[" + TESTS[i] + "]", i);
            test("not[not[" + TESTS[i] + "]]", i);
        }
        test("1 not in(1)", FALSE);
        test("1 not in(2)", TRUE);
        test("not 1 not in(2)", FALSE);
        test("1 not in(null)", UNKNOWN);
        test("not 1 in(null)", UNKNOWN);
        test("1 not between 1 and 1", FALSE);
        test("not 1 not between 1 and 1", TRUE);
        test("not n is null", FALSE);
        test("not n is not null", TRUE);
        test("not exists(select*from e)", TRUE);
    }

    // "and is FALSE if one part is, otherwise UNKNOWN if one is"
    private static void andIsFalseIfOnePartIs() {
        for (int a = 0; a < 3; a++) {
            for (int b = 0; b < 3; b++) {
                test(TESTS[a] + " and " + TESTS[b], both(a, b));
                for (int c = 0; c < 3; c++) {
                    test(TESTS[a] + " and " + TESTS[b] + " and " + TESTS[c], both(both(a, b), c));
                }
            }
        }
    }

    private static int both(int a, int b) {
        return a == FALSE || b == FALSE ? FALSE : a == UNKNOWN || b == UNKNOWN ? UNKNOWN : TRUE;
    }

    private static int either(int a, int b) {
        return a == TRUE || b == TRUE ? TRUE : a == UNKNOWN || b == UNKNOWN ? UNKNOWN : FALSE;
    }

    // "or likewise with TRUE"
    private static void orIsTrueIfOnePartIs() {
        for (int a = 0; a < 3; a++) {
            for (int b = 0; b < 3; b++) {
                test(TESTS[a] + " or " + TESTS[b], either(a, b));
                for (int c = 0; c < 3; c++) {
                    test(TESTS[a] + " or " + TESTS[b] + " or " + TESTS[c], either(either(a, b), c));
                }
            }
        }
    }

    private static void notIsAheadOfAndAheadOfOr() {
        for (int a = 0; a < 3; a++) {
            for (int b = 0; b < 3; b++) {
                int not = a == UNKNOWN ? UNKNOWN : TRUE - a;
                test("not " + TESTS[a] + " and " + TESTS[b], both(not, b));
                test("not " + TESTS[a] + " or " + TESTS[b], either(not, b));
                for (int c = 0; c < 3; c++) {
                    test(TESTS[a] + " or " + TESTS[b] + " and " + TESTS[c], either(a, both(b, c)));
                    test(TESTS[a] + " and " + TESTS[b] + " or " + TESTS[c], either(both(a, b), c));
                    test("[" + TESTS[a] + " or " + TESTS[b] + "]and " + TESTS[c], both(either(a, b), c));
                }
            }
        }
    }

    // "x in (..) is TRUE if x = one of the values is, otherwise UNKNOWN if one of these is, otherwise FALSE"
    private static void inIsTrueUnknownOrFalse() {
        test("1 in(1)", TRUE);
        test("1 in(2)", FALSE);
        test("1 in(null)", UNKNOWN);
        test("1 in(null,1)", TRUE);
        test("1 in(1,null)", TRUE);
        test("1 in(2,null,3)", UNKNOWN);
        test("1 in(2,3,4,5,6,1)", TRUE);
        test("1 in(2,3,4,5,6,7)", FALSE);
        test("1 in(2,3,4,5,6,null)", UNKNOWN);
        test("null in(1)", UNKNOWN);
        test("null in(1,2,null)", UNKNOWN);
        test("1 not in(2,null)", UNKNOWN);
        test("1 not in(2,1,null)", FALSE);
        test("1 not in(2,3)", TRUE);
        test("w in('b','a')", TRUE);
        test("w in('aa','b')", FALSE);
    }

    private static void inOfAQuery() {
        test("1 in(select a from t)", TRUE);
        test("2 in(select a from t)", UNKNOWN);
        test("2 in(select a from t where a is not null)", FALSE);
        test("2 not in(select a from t)", UNKNOWN);
        test("2 not in(select a from t where a is not null)", TRUE);
        test("3 not in(select a from t)", FALSE);
        test("null in(select a from t)", UNKNOWN);
        test("null not in(select k from t)", UNKNOWN);
    }

    // "(of none: FALSE)"
    private static void inOfNone() {
        test("1 in(select k from e)", FALSE);
        test("1 not in(select k from e)", TRUE);
        test("null in(select k from e)", FALSE);
        test("null not in(select k from e)", TRUE);
        test("n in(select a from t where k>9)", FALSE);
        test("1 in(select k from t limit 0)", FALSE);
    }

    // "x between a and b is x >= a and x <= b"
    private static void betweenAtItsBounds() {
        test("1 between 2 and 4", FALSE);
        test("2 between 2 and 4", TRUE);
        test("3 between 2 and 4", TRUE);
        test("4 between 2 and 4", TRUE);
        test("5 between 2 and 4", FALSE);
        test("2 between 2 and 2", TRUE);
        test("3 between 4 and 2", FALSE);
        test("3 not between 4 and 2", TRUE);
        test("3 between null and 2", FALSE);
        test("3 between null and 3", UNKNOWN);
        test("3 between 4 and null", FALSE);
        test("3 between 3 and null", UNKNOWN);
        test("3 not between null and 2", TRUE);
        test("3 not between null and 4", UNKNOWN);
        test("null between 1 and 2", UNKNOWN);
        test("null between 2 and 1", UNKNOWN);
        test("w between 'a' and 'a'", TRUE);
        test("w between 'aa' and 'b'", FALSE);
    }

    // "exists is TRUE if its query has a row."
    private static void existsIfItHasARow() {
        test("exists(select*from o)", TRUE);
        test("exists(select n from o)", TRUE);
        test("exists(select*from e)", FALSE);
        test("exists(select count(*)from e)", TRUE);
        test("exists(select*from o limit 0)", FALSE);
        test("exists(select*from o limit 1 offset 1)", FALSE);
        test("exists(select*from o where n=1)", FALSE);
        test("exists(select*from t where t.k=o.k)", TRUE);
        test("exists(select*from t where t.k=o.n)", FALSE);
    }

    // "case is its first branch if the test is TRUE, otherwise the second one"
    private static void caseIsItsFirstBranchIfTrue() {
        sum("case when 1=1 then 1 else 2 end", "1");
        sum("case when 1=2 then 1 else 2 end", "2");
        sum("case when 1=null then 1 else 2 end", "2");
        sum("case when not 1=null then 1 else 2 end", "2");
        sum("case when 1=1 then null else 2 end", "-");
        sum("case when 1=2 then 1/0 else 2 end", "2");
        sum("case when 1=2 then 1 else n end", "-");
        sum("1+case when 1=1 then 1 else n end", "2");
        sum("case when 1=2 then 1 else case when 1=2 then 2 else 3 end end", "3");
    }

    // "coalesce is its first part if that is not NULL, otherwise the second one"
    private static void coalesceIsItsFirstPartIfNotNull() {
        sum("coalesce(1,2)", "1");
        sum("coalesce(0,2)", "0");
        sum("coalesce(null,2)", "2");
        sum("coalesce(1,null)", "1");
        sum("coalesce(null,null)", "-");
        sum("coalesce(n,k)", "1");
        sum("coalesce(k,n)", "1");
        sum("coalesce(1/0,7)", "7");
        sum("coalesce(n+1,coalesce(n,5))", "5");
        sum("coalesce(null,w)", "97");
    }

    // "A sum is NULL if one of its parts is"
    private static void sumsAreNullIfAPartIs() {
        for (String sign : new String[] {"+", "-", "*", "/", "%"}) {
            sum("1" + sign + "null", "-");
            sum("null" + sign + "1", "-");
            sum("null" + sign + "null", "-");
            sum("n" + sign + "0", "-");
        }
        sum("0*n", "-");
        sum("-n", "-");
        sum("(n)", "-");
        sum("1+2+n+3", "-");
        sum("1*2*n*3", "-");
        sum("n-n", "-");
        sum("null", "-");
    }

    // "or by a division by 0"
    private static void divisionByZeroIsNull() {
        sum("1/0", "-");
        sum("0/0", "-");
        sum("1%0", "-");
        sum("0%0", "-");
        sum("1/(1-1)", "-");
        sum("6/3/0*2", "-");
        sum("1+1/0", "-");
        sum("0/1", "0");
        sum("0%1", "0");
        sum("1/1", "1");
        sum("1/-1", "-1");
        sum("k/(k-1)", "-");
    }

    // "/ is rounded toward 0, and % is what is left then"
    private static void divisionIsRoundedTowardZero() {
        int[] numbers = {-7, -6, -5, -1, 0, 1, 5, 6, 7};
        int[] divisors = {-7, -3, -2, -1, 1, 2, 3, 7, 8};
        for (int number : numbers) {
            for (int divisor : divisors) {
                int size = Math.abs(number) / Math.abs(divisor);
                int sign = number < 0 == divisor < 0 ? 1 : -1;
                sum("(" + number + ")/(" + divisor + ")", "" + sign * size);
                sum("(" + number + ")%(" + divisor + ")", "" + (number - sign * size * divisor));
            }
        }
    }

    private static void sumsAreWorkedOutFromTheLeft() {
        sum("10-3-2", "5");
        sum("100/10/5", "2");
        sum("100/10*5", "50");
        sum("17%10%4", "3");
        sum("2+3*4-1", "13");
        sum("2*3+4*5", "26");
        sum("-2*3", "-6");
        sum("2*-3", "-6");
        sum("- - -2", "-2");
        sum("-(2+3)*2", "-10");
        sum("7/2*2", "6");
        sum("2*7/2", "7");
    }
}
