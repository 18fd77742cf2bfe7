/** Sections 3 and 6 of the document, with promises 43 and 44: policies, functions, views, queries. */
public final class MeaningTest {
    private static Desk d;

    private static void told(String text, String due) {
        Desk.is(text, d.told(0, text), due);
    }

    private static void prepare() {
        d = new Desk();
        d.base.make(0, 0, 3);
        d.base.make(0, 1, 2);
        d.run(0, "insert T0 c0 = 1 , c1 = 10 , c2 = 5");
        d.run(0, "insert T0 c0 = 2 , c1 = 20");
        d.run(0, "insert T0 c0 = 1 , c1 = 30 , c2 = 6");
        d.run(0, "insert T0 c1 = 40");
        d.run(0, "insert T0 c0 = 2 , c2 = 7");
        d.run(0, "insert T1 c0 = 1 , c1 = 1");
        d.run(0, "insert T1 c0 = 3 , c1 = 2");
        d.run(0, "insert T1 c1 = 3");
    }

    private static void one(String expr, String due) {
        told("select distinct " + expr + " from T0", due);
    }

    private static void numbers() {
        one("1 + 2 * 3 - 4", "3");
        one("( 1 + 2 ) * 3", "9");
        one("10 - 3 - 2", "5");
        one("2 * 3 * 4", "24");
        one("- 5 + 2", "-3");
        one("- - 5", "5");
        one("- null", "-");
        one("null + 1 , 1 - null , null * 0", "-,-,-");
        one("99 * 10 + 9", "999");
        one("99 * 10 + 10", "-");
        one("99 * 10 + 10 - 10", "-");
        one("- 99 * 10 - 9", "-999");
        one("- 99 * 10 - 10", "-");
        one("0 * ( 99 * 99 )", "-");
        one("A3 + A7", "10");
        one("me , asker", "0,0");
        Desk.is("me of another one", d.told(3, "select me from T0"), "");
        d.base.grant(0, 0, 0, -1, 3, false);
        Desk.is("me of another one", d.told(3, "select distinct me * 10 + asker from T0"), "33");
    }

    private static void when(String cond, String due) {
        told("select c1 from T0 where " + cond, due);
    }

    private static void conditions() {
        when("c0 = 1", "10;30");
        when("c0 <> 1", "-;20");
        when("c0 < 2", "10;30");
        when("c0 <= 2", "-;10;20;30");
        when("not c0 = 1", "-;20");
        when("c0 = null", "");
        when("not c0 = null", "");
        when("c0 is null", "40");
        when("c0 is not null", "-;10;20;30");
        when("c0 + c2 is null", "20;40");
        when("c0 = 1 and c2 = 5", "10");
        when("c0 = 1 or c1 = 40", "10;30;40");
        when("c0 = 2 and null = 1 or c1 = 10", "10");
        when("c0 = 1 or null = 1", "10;30");
        when("not [ c0 = 1 or null = 1 ]", "");
        when("not [ c0 = 1 and null = 1 ]", "-;20");
        when("c0 = 1 or c0 = 2 and c1 = 20", "10;20;30");
        when("[ c0 = 1 or c0 = 2 ] and c1 = 20", "20");
        when("c0 in ( 1 , 5 )", "10;30");
        when("c0 not in ( 1 , 5 )", "-;20");
        when("c0 in ( 1 , null )", "10;30");
        when("c0 not in ( 1 , null )", "");
        when("not c0 in ( 1 , null )", "");
        when("not c0 not in ( 1 , 5 )", "10;30");
        when("not c0 not in ( 1 , null )", "10;30");
        when("c0 not in ( 1 , null ) or c1 = 20", "20");
        when("c0 is not null and not c0 is null", "-;10;20;30");
        when("exists ( select c0 from T1 where c0 = outer c0 )", "10;30");
        when("not exists ( select c0 from T1 where c0 = outer c0 )", "-;20;40");
        when("exists ( select count ( * ) from T1 where c0 = 77 )", "-;10;20;30;40");
        when("exists ( select count ( * ) from T1 where c0 = 77 group c0 )", "");
        when("member A0", "-;10;20;30;40");
        when("member A5", "");
        d.base.join(0, 5, 0, false);
        when("member A5", "");
        Desk.is("member by its circle", d.told(5, "select c1 from T0 where member A0 and member A5"),
                "-;10;20;30;40");
    }

    private static void queries() {
        told("select * from T0", "-,40,-;1,10,5;1,30,6;2,-,7;2,20,-");
        told("select c0 from T0", "-;1;1;2;2");
        told("select distinct c0 from T0", "-;1;2");
        told("select distinct c0 , c0 + 1 from T0", "-,-;1,2;2,3");
        told("select c0 , c1 from T1", "-,3;1,1;3,2");
        told("select a c1 , b c1 from T0 , T1 where a c0 = b c0", "10,1;30,1");
        told("select b c1 , c1 from T0 , T1 where b c0 = c0 + 1 and a c2 is not null", "2,-");
        told("select * from T1 , T1 where a c1 = 1", "1,1,-,3;1,1,1,1;1,1,3,2");
        told("select count ( * ) from T0 , T1", "15");
        told("select - c1 from T0 where c1 < 30", "-20;-10");
    }

    private static void groups() {
        told("select c0 , count ( * ) , sum ( c1 ) , max ( c2 ) from T0 group c0", "-,1,40,-;1,2,40,6;2,2,20,7");
        told("select count ( * ) , count ( c0 ) , min ( c1 ) , max ( c1 ) from T0", "5,4,10,40");
        told("select sum ( c1 * 10 ) from T0", "-");
        told("select sum ( c1 * 9 + 9 ) from T0", "936");
        told("select sum ( c1 * 10 ) from T0 where c1 < 40", "600");
        told("select sum ( c1 * 9 ) , sum ( - c1 * 9 ) from T0", "900,-900");
        told("select count ( * ) , sum ( c1 ) , min ( c1 ) from T0 where c0 = 9", "0,-,-");
        told("select c0 , count ( * ) from T0 where c0 = 9 group c0", "");
        told("select sum ( null ) , count ( null ) from T0", "-,0");
        told("select 7 from T0 group c0", "7;7;7");
        told("select distinct 7 from T0 group c0", "7");
        told("select count ( * ) from T0 group c0", "1;2;2");
        told("select max ( c1 ) - min ( c1 ) from T0 group c0", "0;0;20");
        told("select b c1 , count ( * ) from T0 , T1 where a c0 < 2 group b c1", "1,2;2,2;3,2");
        // The first row of a group: of the least number of a, then of b.
        told("select count ( * ) , ( select max ( c0 ) from T1 where c1 = outer c0 ) from T0", "5,1");
        told("select c0 , ( select sum ( outer c1 ) from T1 ) from T0 group c0", "-,120;1,30;2,60");
        told("select ( select max ( outer b c1 ) from T1 ) , count ( * ) from T0 , T1", "1,15");
        told("select count ( * ) , ( select max ( outer c1 ) from T1 ) from T0 where c0 = 9", "0,-");
        told("select sum ( ( select count ( * ) from T1 where c0 = outer c0 ) ) from T0", "2");
        told("select max ( c1 ) , ( select c1 from T1 where c0 = 1 ) from T0", "40,1");
    }

    private static void inner() {
        told("select distinct ( select c1 from T1 ) from T0", "1");
        told("select distinct ( select c0 from T1 ) from T0", "-");
        told("select distinct ( select c0 from T1 where c0 = 9 ) from T0", "-");
        told("select c0 , ( select c1 from T1 where c0 = outer c0 ) from T0 where c0 is not null", "1,1;1,1;2,-;2,-");
        told("select c1 from T0 where c1 = 10 * ( select max ( c1 ) from T1 )", "30");
        told("select c1 from T0 where ( select c1 from T1 where c0 = outer c0 ) = 1", "10;30");
    }

    private static void views() {
        d.view(0, 0, "select c0 , c1 + 1 from T0 where c0 is not null", true);
        told("select * from V0", "1,11;1,31;2,-;2,21");
        told("select c1 from V0 where c0 = 1", "11;31");
        d.view(0, 1, "select * from T0 , T1", true);
        told("select count ( * ) from V1", "12");
        told("select * from V1", "-,40,-,-;-,40,-,1;-,40,-,3;1,10,5,-;1,10,5,1;1,10,5,3;1,30,6,-;1,30,6,1;1,30,6,3;"
                + "2,-,7,-;2,-,7,1;2,-,7,3");
        d.view(0, 2, "select count ( * ) from V0 , V1", false);
        told("select * from V2", "48");
        told("select a c1 , b c0 from V0 , V0 where a c1 < b c1 and a c0 = 2", "21,1");
        // The first row of a view is that of its sequence.
        told("select c0 , ( select max ( outer c1 ) from T1 ) from V0 group c0", "1,11;2,-");
    }

    private static void rightsOfViews() {
        Desk d = new Desk();
        d.base.make(0, 0, 2);
        d.run(0, "insert T0 c0 = 1 , c1 = 1");
        d.run(0, "insert T0 c0 = 2 , c1 = 2");
        d.view(0, 0, "select c0 , me , asker from T0", true);
        d.view(0, 1, "select c0 , me , asker from T0", false);
        for (int view = 4; view <= 5; view++) {
            d.base.grant(0, view, 0, -1, 1, false);
        }
        Desk.is("by its owner", d.told(1, "select * from V0"), "1,0,1;2,0,1");
        Desk.is("by who asks, who may not", d.told(1, "select * from V1"), "");
        d.base.grant(0, 0, 0, 0, 1, false);
        Desk.is("by who asks", d.told(1, "select * from V1"), "1,1,1;2,1,1");
        d.policy(0, 0, 0, "c0 = me + 1 and asker = 1", 0, 0);
        d.policy(0, 0, 1, "c0 = me", 0, 1);
        d.base.secure(0, 0, 2);
        Desk.is("rows of its owner, asker the same", d.told(1, "select * from V0"), "1,0,1");
        Desk.is("the owner as the asker", d.told(0, "select * from V0"), "");
        Desk.is("rows of who asks", d.told(1, "select * from V1"), "1,1,1");
        d.base.drop(0, 5);
        d.view(0, 1, "select * from T0", false);
        d.base.grant(0, 5, 0, -1, 1, false);
        Desk.is("columns by who asks", d.base.sees(0, 1, 5), 1);
        Desk.is("columns by the owner", d.base.sees(0, 0, 5), 3);
        d.view(0, 2, "select * from V1", true);
        d.base.grant(0, 6, 0, -1, 1, false);
        Desk.is("the owner's view of a view by who asks", d.base.sees(0, 1, 6), 3);
        d.base.revoke(0, 0, 0, 0, 1, 1);
        Desk.is("broken", d.base.sees(0, 1, 5), 0);
        Desk.is("that one is not", d.base.sees(0, 1, 6), 3);
    }

    private static void functions() {
        Desk d = new Desk();
        d.base.make(0, 0, 1);
        d.run(0, "insert T0 c0 = 5");
        d.function(0, 0, "p * 10 + me", true);
        d.function(0, 1, "p * 10 + me", false);
        d.function(0, 2, "F1 ( p ) * 10 + asker", true);
        Desk.is("not known", d.base.call(0, 0, 1, 4), -9999);
        Desk.is("not there", d.base.call(0, 3, 0, 4), -9999);
        for (int f = 8; f <= 10; f++) {
            d.base.grant(0, f, 4, -1, 1, false);
        }
        Desk.is("owner's rights", d.base.call(0, 0, 1, 4), 40);
        Desk.is("asker's rights", d.base.call(0, 1, 1, 4), 41);
        Desk.is("called by a function", d.base.call(0, 2, 1, 4), 401);
        Desk.is("of NULL", d.base.call(0, 0, 1, -9999), -9999);
        Desk.is("beyond", d.base.call(0, 0, 1, 999), -9999);
        d.base.grant(0, 0, 0, -1, 1, false);
        Desk.is("in a query", d.told(1, "select F0 ( c0 ) , F1 ( c0 + 1 ) , F2 ( F0 ( 0 ) ) from T0"), "50,61,1");
        d.base.drop(0, 9);
        Desk.is("an error now", d.base.call(0, 2, 1, 4), -9999);
        Desk.is("no error of the query", d.told(1, "select F2 ( c0 ) from T0"), "-");
        Desk.is("but of one that names it", d.fault(1, 0, "select F1 ( c0 ) from T0"), "2@1");
        d.function(0, 1, "p + 1", true);
        Desk.is("there again", d.base.call(0, 2, 1, 4), 51);
        d.base.own(0, 10, 3);
        Desk.is("not known to its new owner", d.base.call(0, 2, 3, 4), -9999);
        d.base.grant(0, 9, 4, -1, 3, false);
        Desk.is("known then", d.base.call(0, 2, 3, 4), 53);
        Desk.isRaised("p beyond", "IllegalArgumentException", () -> d.base.call(0, 0, 0, 1000));
        Desk.isRaised("p below", "IllegalArgumentException", () -> d.base.call(0, 0, 0, -1000));
        Desk.isRaised("p -9998", "IllegalArgumentException", () -> d.base.call(0, 0, 0, -9998));
        Desk.isRaised("p -10000", "IllegalArgumentException", () -> d.base.call(0, 0, 0, -10000));
    }

    private static void policies() {
        Desk d = new Desk();
        d.base.make(0, 0, 2);
        for (int i = 0; i < 5; i++) {
            d.run(0, "insert T0 c0 = " + i + " , c1 = " + (5 - i));
        }
        Desk.is("off", d.base.rows(1, 7, 0, false), "0 1 2 3 4");
        d.base.secure(0, 0, 1);
        Desk.is("on, none lets", d.base.rows(1, 7, 0, false), "");
        Desk.is("on, the owner", d.base.rows(1, 0, 0, true), "0 1 2 3 4");
        d.base.join(0, 6, 0, false);
        Desk.is("on, who owns it", d.base.rows(1, 6, 0, true), "0 1 2 3 4");
        d.base.secure(0, 0, 2);
        Desk.is("forced, the owner", d.base.rows(1, 0, 0, true), "");
        d.policy(0, 0, 0, "c0 <= 1", 0, 0);
        Desk.is("lets read", d.base.rows(1, 0, 0, false), "0 1");
        Desk.is("lets a member read", d.base.rows(1, 6, 0, false), "0 1");
        Desk.is("not another one", d.base.rows(1, 7, 0, false), "");
        Desk.is("not write", d.base.rows(1, 0, 0, true), "");
        d.policy(0, 0, 1, "c1 <= 3", 0, 6);
        Desk.is("one of two", d.base.rows(1, 6, 0, false), "0 1 2 3 4");
        Desk.is("only the one that is for it", d.base.rows(1, 0, 0, false), "0 1");
        d.policy(0, 0, 2, "c0 <> 1", 2, 0);
        Desk.is("barred", d.base.rows(1, 6, 0, false), "0 2 3 4");
        d.policy(0, 0, 3, "c0 <> null", 2, 6);
        Desk.is("unknown bars", d.base.rows(1, 6, 0, false), "");
        Desk.is("not another one", d.base.rows(1, 0, 0, false), "0");
        d.policy(0, 0, 3, "c0 < me or c1 < 2", 1, 6);
        Desk.is("lets write", d.base.rows(1, 6, 0, true), "0 1 2 3 4");
        Desk.is("none of a table that is not there", d.base.rows(1, 6, 3, true), "");
    }

    private static void functionsOfPolicies() {
        Desk d = new Desk();
        d.base.make(0, 0, 1);
        for (int i = 0; i < 4; i++) {
            d.run(0, "insert T0 c0 = " + i);
        }
        d.function(0, 0, "p + me", false);
        d.base.own(0, 8, 3);
        d.base.act(1, 3);
        d.base.grant(1, 8, 4, -1, 0, false);
        // The function is called as by the owner, 0; me in its argument is the runner.
        d.policy(0, 0, 0, "c0 = F0 ( me )", 0, 2);
        d.base.secure(0, 0, 2);
        Desk.is("me is the runner", d.base.rows(0, 2, 0, false), "2");
        d.base.own(0, 0, 1);
        Desk.is("not known to the new owner", d.base.rows(0, 2, 0, false), "");
        d.base.grant(1, 8, 4, -1, 1, false);
        Desk.is("called as by the new owner", d.base.rows(0, 2, 0, false), "3");
        Desk.is("not known to the runner", d.base.isKnown(0, 2, 8), false);
    }

    public static void main(String[] args) {
        prepare();
        numbers();
        conditions();
        prepare();
        queries();
        groups();
        inner();
        views();
        rightsOfViews();
        functions();
        policies();
        functionsOfPolicies();
        Desk.end("MeaningTest");
    }
}
