/** Section 6: what is reckoned up to -999 and 999 and beyond, NULL, UNKNOWN, GROUPS, and ROWS in order. */
public final class ReckoningTest {
    private static Desk d;

    /** What a query of T0, which holds one ROW, tells. */
    private static void one(String exprs, String due) {
        Desk.is(exprs, d.told(0, "select " + exprs + " from T0"), due);
    }

    private static void told(String text, String due) {
        Desk.is(text, d.told(0, text), due);
    }

    private static void single() {
        d = new Desk();
        d.base.make(0, 0, 1);
        d.insert(0, 0, "5");
    }

    /** "What is reckoned by + - * is NULL, if one of both is NULL, or if it lies beyond -999 to 999". */
    private static void bounds() {
        single();
        one("99 * 10 + 9 , 99 * 10 + 10", "999,-");
        one("0 - 99 * 10 - 9 , 0 - 99 * 10 - 10", "-999,-");
        one("27 * 37 , 25 * 40", "999,-");
        one("- 27 * 37 , - 25 * 40", "-999,-");
        one("- 27 * - 37 , - 25 * - 40", "999,-");
        one("27 * 37 + 0 , 27 * 37 + 1", "999,-");
        one("27 * 37 - 0 , 27 * 37 - - 1", "999,-");
        one("- 27 * 37 - 1 , - 27 * 37 + 1", "-,-998");
        one("99 * 99 , - 99 * 99 , 99 * 99 * 0", "-,-,-");
        one("27 * 37 * 1 , 27 * 37 * - 1 , 27 * 37 * 2", "999,-999,-");
        // Beyond on the way is NULL to the end.
        one("99 * 10 + 10 - 10 , 99 * 10 - 10 + 10", "-,990");
        one("25 * 40 * 0 , 0 * 25 * 40", "-,0");
        one("- ( 27 * 37 ) , - ( 25 * 40 )", "-999,-");
    }

    /** NULL on each side of each sign; "- a is NULL of NULL". */
    private static void nulls() {
        single();
        for (String sign : new String[] {"+", "-", "*"}) {
            one("null " + sign + " 1 , 1 " + sign + " null , null " + sign + " null , 0 " + sign + " null", "-,-,-,-");
        }
        one("null , - null , - - null", "-,-,-");
        one("0 , - 0 , - 1 , - - 1", "0,0,-1,1");
        one("( null ) , 1 + ( null ) , - ( - 5 )", "-,-,5");
    }

    /** "from the left": what is reckoned first. */
    private static void sequence() {
        single();
        one("9 - 5 - 3 , 9 - 5 + 3 , 9 - ( 5 - 3 )", "1,7,7");
        one("1 + 2 * 3 , 2 * 3 + 1 , ( 1 + 2 ) * 3", "7,7,9");
        one("- 2 * 3 , 2 * - 3 , 2 - - 3 , - 2 - 3", "-6,-6,5,-5");
        one("2 * 3 * 4 - 5 * 2 , 2 * ( 3 * ( 4 - 5 ) )", "14,-6");
        one("A0 , A7 , A3 * 10 + A4", "0,7,34");
        one("0 , 99 , 9 , 10", "0,99,9,10");
    }

    /** A VALUE that is stored: from -999 to 999, otherwise NULL. */
    private static void stored() {
        d = new Desk();
        d.base.make(0, 0, 3);
        d.insert(0, 0, "27 * 37", "- 27 * 37", "0");
        d.insert(0, 0, "25 * 40", "- 25 * 40", "null");
        Desk.is("ROWS", d.base.text(0, 0), "0:999,-999,0;1:-,-,-");
        d.run(0, "update T0 set c0 = c0 + 1 , c1 = c1 - 1 , c2 = c2 + c0");
        Desk.is("ROWS then", d.base.text(0, 0), "0:-,-,999;1:-,-,-");
    }

    /** TRUE, FALSE or UNKNOWN: T tells TRUE, F that its not is, U neither. */
    private static String truth(String cond) {
        boolean isTrue = !d.told(0, "select 1 from T0 where " + cond).isEmpty();
        boolean isFalse = !d.told(0, "select 1 from T0 where not [ " + cond + " ]").isEmpty();
        return isTrue && isFalse ? "both" : isTrue ? "T" : isFalse ? "F" : "U";
    }

    private static void is(String cond, String due) {
        Desk.is(cond, truth(cond), due);
    }

    /** "comparisons are UNKNOWN, if one of both is NULL". */
    private static void comparisons() {
        single();
        String[] signs = {"=", "<>", "<", "<="};
        String[] dues = {"FTF", "TFT", "TFF", "TTF"};
        for (int i = 0; i < 4; i++) {
            is("4 " + signs[i] + " 5", dues[i].substring(0, 1));
            is("5 " + signs[i] + " 5", dues[i].substring(1, 2));
            is("6 " + signs[i] + " 5", dues[i].substring(2, 3));
            is("null " + signs[i] + " 5", "U");
            is("5 " + signs[i] + " null", "U");
            is("null " + signs[i] + " null", "U");
            is("25 * 40 " + signs[i] + " 5", "U");
        }
        is("- 27 * 37 < 27 * 37", "T");
        is("- 1 < 0", "T");
        is("c0 = 5", "T");
    }

    /** not, and, or of TRUE, FALSE and UNKNOWN: all of them. */
    private static void connectives() {
        single();
        String[] conds = {"0 = 0", "0 = 1", "0 = null"};
        String[] ands = {"TFU", "FFF", "UFU"};
        String[] ors = {"TTT", "TFU", "TUU"};
        String[] nots = {"F", "T", "U"};
        for (int i = 0; i < 3; i++) {
            is("not " + conds[i], nots[i]);
            for (int j = 0; j < 3; j++) {
                is(conds[i] + " and " + conds[j], ands[i].substring(j, j + 1));
                is(conds[i] + " or " + conds[j], ors[i].substring(j, j + 1));
                is(conds[j] + " and 0 = 0 and " + conds[i], ands[i].substring(j, j + 1));
                is(conds[j] + " or 0 = 1 or " + conds[i], ors[i].substring(j, j + 1));
            }
        }
        // and goes ahead of or, not ahead of both.
        is("0 = 0 or 0 = 0 and 0 = 1", "T");
        is("[ 0 = 0 or 0 = 0 ] and 0 = 1", "F");
        is("not 0 = 1 and 0 = 1", "F");
        is("not [ 0 = 1 and 0 = 1 ]", "T");
        is("not not 0 = null", "U");
    }

    /** "is null": TRUE or FALSE; member, exists too. */
    private static void neverUnknown() {
        single();
        is("null is null", "T");
        is("null is not null", "F");
        is("0 is null", "F");
        is("0 is not null", "T");
        is("25 * 40 is null", "T");
        is("27 * 37 is null", "F");
        is("member A0", "T");
        is("member A7", "F");
        is("exists ( select 1 from T0 )", "T");
        is("exists ( select null from T0 )", "T");
        is("exists ( select 1 from T0 where null = 1 )", "F");
        is("exists ( select 1 from T0 where c0 = 4 )", "F");
        is("exists ( select count ( * ) from T0 where c0 = 4 )", "T");
        is("exists ( select count ( * ) from T0 where c0 = 4 group c0 )", "F");
    }

    /** "in: as a row of = with or between; not in: not of that". */
    private static void lists() {
        single();
        is("5 in ( 5 )", "T");
        is("5 in ( 4 )", "F");
        is("5 in ( null )", "U");
        is("null in ( 5 )", "U");
        is("null in ( null )", "U");
        is("5 in ( 4 , null , 5 )", "T");
        is("5 in ( 5 , null )", "T");
        is("5 in ( 4 , null , 6 )", "U");
        is("5 in ( 4 , 6 )", "F");
        is("5 not in ( 5 )", "F");
        is("5 not in ( 4 , 6 )", "T");
        is("5 not in ( 4 , null )", "U");
        is("5 not in ( 5 , null )", "F");
        is("null not in ( 5 )", "U");
        is("c0 in ( 1 + 4 )", "T");
        is("c0 in ( ( select max ( c0 ) from T0 ) )", "T");
    }

    private static void rows() {
        d = new Desk();
        d.base.make(0, 0, 2);
        d.base.make(0, 1, 2);
        d.insert(0, 0, "2", "27 * 37");
        d.insert(0, 0, "1", "null");
        d.insert(0, 0, "2", "- 27 * 37");
        d.insert(0, 0, "null", "3");
        d.insert(0, 0, "1", "27 * 37");
        d.insert(0, 0, "null", "3");
    }

    /** "put in order by their VALUES from the first one on (NULL ahead of all numbers)"; distinct. */
    private static void order() {
        rows();
        told("select * from T0", "-,3;-,3;1,-;1,999;2,-999;2,999");
        told("select c1 from T0", "-;-999;3;3;999;999");
        told("select c1 , c0 from T0", "-,1;-999,2;3,-;3,-;999,1;999,2");
        told("select distinct * from T0", "-,3;1,-;1,999;2,-999;2,999");
        told("select distinct c0 from T0", "-;1;2");
        told("select distinct null from T0", "-");
        told("select distinct 0 * c0 from T0", "-;0");
        told("select distinct c0 , c0 from T0 where c0 = 1", "1,1");
        told("select distinct c1 from T0 where c0 = 7", "");
        told("select - c0 from T0", "-;-;-2;-2;-1;-1");
    }

    /** "sum, min, max of those not NULL, NULL without any (sum also beyond the bounds at the end)". */
    private static void sums() {
        rows();
        told("select sum ( c1 ) from T0", "-");
        told("select sum ( c1 ) from T0 where c0 = 1 or c0 = 2", "999");
        told("select sum ( c1 ) from T0 where c1 = 27 * 37", "-");
        told("select sum ( c1 ) from T0 where c0 = 2", "0");
        told("select sum ( c1 ) from T0 where c0 = 1", "999");
        told("select sum ( - c1 ) from T0 where c0 = 1", "-999");
        told("select sum ( - c1 ) , sum ( c1 ) from T0 where c1 = 27 * 37", "-,-");
        told("select sum ( c1 ) , min ( c1 ) , max ( c1 ) , count ( c1 ) from T0 where c1 is null", "-,-,-,0");
        told("select min ( c1 ) , max ( c1 ) , count ( c1 ) , count ( * ) from T0", "-999,999,5,6");
        told("select min ( c0 ) , max ( c0 ) , sum ( c0 ) , count ( c0 ) from T0", "1,2,6,4");
        // Far beyond on the way, within at the end.
        told("select sum ( a c1 ) , sum ( a c1 + 0 * b c0 ) from T0 , T0 where a c0 = 2", "0,0");
        told("select sum ( 27 * 37 ) from T0 where c1 = - 27 * 37", "999");
        told("select sum ( 99 ) + 9 * 45 , sum ( 99 ) + 9 * 45 + 1 from T0", "999,-");
        told("select sum ( 1 + 25 * 40 ) , count ( 1 + 25 * 40 ) from T0", "-,0");
        told("select c0 , sum ( c1 ) from T0 group c0", "-,6;1,999;2,0");
    }

    /** "without group, but with an aggregate in what, all are one GROUP, also none". */
    private static void none() {
        rows();
        told("select count ( * ) from T1", "0");
        told("select count ( * ) , count ( c0 ) , sum ( c0 ) , min ( c0 ) from T1", "0,0,-,-");
        told("select max ( c0 ) from T1", "-");
        told("select 7 , max ( c0 ) from T1", "7,-");
        told("select me + count ( * ) from T1", "0");
        told("select c0 , count ( * ) from T1 group c0", "");
        told("select 1 from T1 group c0", "");
        told("select 1 from T1", "");
        told("select count ( * ) from T0 , T1", "0");
        told("select count ( * ) from T0 where c0 = 9", "0");
        told("select count ( * ) , ( select max ( outer c0 ) from T0 ) from T1", "0,-");
        told("select count ( * ) , ( select count ( * ) from T0 where c0 = outer c0 ) from T1", "0,0");
        told("select count ( * ) , ( select count ( * ) from T0 where outer c0 is null ) from T1", "0,6");
        told("select distinct count ( * ) from T1", "0");
    }

    /** "those with like VALUES of its ref are one GROUP (NULL is like NULL)"; the first ROW of one. */
    private static void groups() {
        rows();
        told("select c0 , count ( * ) from T0 group c0", "-,2;1,2;2,2");
        told("select c1 , count ( * ) from T0 group c1", "-,1;-999,1;3,2;999,2");
        told("select count ( * ) from T0 group c0", "2;2;2");
        told("select distinct count ( * ) from T0 group c0", "2");
        told("select 1 from T0 group c0", "1;1;1");
        String first = "( select max ( outer c1 ) from T0 )";
        told("select c0 , " + first + " from T0 group c0", "-,3;1,-;2,999");
        d.run(0, "delete T0 where c1 = 99 * 10 + 9 and c0 = 2");
        told("select c0 , " + first + " from T0 group c0", "-,3;1,-;2,-999");
        d.insert(0, 1, "5", "2");
        d.insert(0, 1, "4", "1");
        d.insert(0, 1, "3", "2");
        // Of a and b: that of the least NUMBER of a, then of b.
        told("select b c1 , ( select max ( outer b c0 ) from T1 ) , ( select max ( outer c1 ) from T1 ) from T0 , T1 "
                + "where a c0 = 1 group b c1", "1,4,-;2,5,-");
        told("select a c0 , ( select max ( outer b c0 ) from T1 ) from T0 , T1 where a c0 <= b c1 group a c0", "1,5;2,5");
        // Within an aggregate it is by each of its ROWS.
        told("select c1 , sum ( ( select max ( outer c0 ) from T1 ) ) from T1 group c1", "1,4;2,8");
        told("select c1 , count ( ( select c0 from T1 where c0 = outer c0 + 1 ) ) from T1 group c1", "1,1;2,1");
        // Of a VIEW in the sequence of its ROWS.
        d.view(0, 0, "select c1 , c0 from T1", true);
        told("select c0 , ( select max ( outer c1 ) from T1 ) from V0 group c0", "1,4;2,3");
        told("select a c0 , ( select max ( outer b c1 ) from T1 ) from T1 , V0 where a c1 = b c0 group a c0", "3,3;4,4;5,3");
    }

    /** "A query as a factor: its first ROW's VALUE, NULL without a ROW". */
    private static void factors() {
        rows();
        d.insert(0, 1, "5", "2");
        told("select ( select c0 from T0 ) from T1", "-");
        told("select ( select c0 from T0 where c0 is not null ) from T1", "1");
        told("select ( select - c0 from T0 where c0 is not null ) from T1", "-2");
        told("select ( select c0 from T0 where c0 = 9 ) from T1", "-");
        told("select ( select count ( * ) from T0 where c0 = 9 ) from T1", "0");
        told("select 1 + ( select c0 from T0 where c0 = 9 ) from T1", "-");
        told("select ( select 1 from T0 where c0 = outer c0 ) from T0", "-;-;1;1;1;1");
        told("select ( select 1 from T1 ) + ( select 2 from T1 ) from T1", "3");
    }

    /** "insert: NULL in all other COLUMNS"; ROWS as they were ahead of an update. */
    private static void changes() {
        d = new Desk();
        d.base.make(0, 0, 4);
        d.run(0, "insert T0 c2 = 7");
        d.run(0, "insert T0 c3 = ( select count ( * ) from T0 )");
        Desk.is("NULL in others", d.base.text(0, 0), "0:-,-,7,-;1:-,-,-,1");
        d.run(0, "update T0 set c0 = c1 , c1 = ( select count ( c1 ) from T0 ) , c2 = c3 , c3 = c2");
        Desk.is("all as it was", d.base.text(0, 0), "0:-,0,-,7;1:-,0,1,-");
        d.run(0, "update T0 set c1 = ( select count ( * ) from T0 where c1 = 0 )");
        Desk.is("all ROWS as they were", d.base.text(0, 0), "0:-,2,-,7;1:-,2,1,-");
        Desk.is("also if its VALUES stay", d.run(0, "update T0 set c1 = 2"), 2);
        Desk.is("UNKNOWN is not TRUE", d.run(0, "update T0 set c1 = 3 where c0 = 1"), 0);
        Desk.is("FALSE neither", d.run(0, "update T0 set c1 = 3 where c1 = 3"), 0);
        Desk.is("to delete", d.run(0, "delete T0 where c0 = 1"), 0);
        Desk.is("as it was", d.base.text(0, 0), "0:-,2,-,7;1:-,2,1,-");
        Desk.is("by a query", d.run(0, "delete T0 where c2 = ( select min ( c2 ) from T0 )"), 1);
        Desk.is("the other one is left", d.base.text(0, 0), "0:-,2,-,7");
    }

    public static void main(String[] args) {
        bounds();
        nulls();
        sequence();
        stored();
        comparisons();
        connectives();
        neverUnknown();
        lists();
        order();
        sums();
        none();
        groups();
        factors();
        changes();
        Desk.end("ReckoningTest");
    }
}
