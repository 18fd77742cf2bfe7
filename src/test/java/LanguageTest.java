/** Promise 14: errors of the language, and their places. */
public final class LanguageTest {
    private static Desk d;

    private static void is(int form, String text, String due) {
        Desk.is(form + ": " + text, d.fault(form, text), due);
    }

    /** Session 0 acts as the owner of T0 with 2 columns, T1 with 1, V0 of both, F0 and F1. */
    private static void prepare() {
        d = new Desk();
        d.base.make(0, 0, 2);
        d.base.make(0, 1, 1);
        Desk.is("V0", d.view(0, 0, "select a c0 , b c0 from T0 , T1", true), 2);
        Desk.is("F0", d.function(0, 0, "p", true), 1);
        Desk.is("F1", d.function(0, 1, "F0 ( p )", true), 4);
    }

    private static void syntax() {
        is(0, "", "1@0");
        is(1, "", "1@0");
        is(2, "", "1@0");
        is(3, "", "1@0");
        is(0, "select * from T0", "0@-1");
        is(0, "select", "1@1");
        is(0, "select * from", "1@3");
        is(0, "select * T0", "1@2");
        is(0, "select from T0", "1@1");
        is(0, "select distinct distinct * from T0", "1@2");
        is(0, "select * , c0 from T0", "1@2");
        is(0, "select c0 , c1 , c0 , c1 from T0", "0@-1");
        is(0, "select c0 , c1 , c0 , c1 , c0 from T0", "1@8");
        is(0, "select * from T0 , T1 , T0", "1@6");
        is(0, "select * from F0", "1@3");
        is(0, "select * from T0 group c0 where c0 = 1", "1@6");
        is(0, "select c0 from T0 where c0 = 1 group c0", "0@-1");
        is(0, "select c0 from T0 group c0 , c1", "1@6");
        is(0, "select c0 from T0 group 1", "1@5");
        is(0, "select * from T0 T0", "1@4");
        is(0, "c0 = 1", "1@0");
        is(0, "T0", "1@0");
        is(1, "insert T0 c0 = 1", "1@0");
        is(1, "select * from T0", "0@-1");
        is(2, "c0 = 1", "1@1");
        is(2, "p p", "1@1");
        is(2, "p +", "1@2");
        is(2, "p + + 1", "1@2");
        is(2, "+ 1", "1@0");
        is(2, "( p", "1@2");
        is(2, "( p ) )", "1@3");
        is(2, "F0 p", "1@1");
        is(2, "F0 ( )", "1@2");
        is(2, "a", "1@1");
        is(2, "outer", "1@1");
        is(2, "a outer c0", "1@1");
        is(2, "c0", "2@0");
        is(3, "c0", "1@1");
        is(3, "c0 = 1", "0@-1");
        is(3, "c0 = 1 = 1", "1@3");
        is(3, "c0 = 1 and", "1@4");
        is(3, "c0 is 1", "1@2");
        is(3, "c0 is not 1", "1@3");
        is(3, "c0 not null", "1@2");
        is(3, "c0 in ( )", "1@3");
        is(3, "c0 in 1", "1@2");
        is(3, "c0 in ( 1 , )", "1@5");
        is(3, "c0 in ( 1 , 2 , 3 , 4 , 5 , 6 )", "0@-1");
        is(3, "c0 not in ( 1 )", "0@-1");
        is(3, "( c0 = 1 )", "1@2");
        is(3, "[ c0 = 1 ]", "0@-1");
        is(3, "[ c0 = 1", "1@4");
        is(3, "member 1", "1@1");
        is(3, "member A1 A1", "1@2");
        is(3, "exists ( c0 )", "1@2");
        is(3, "exists select", "1@1");
        is(3, "c0 <> 1", "0@-1");
    }

    private static void statements() {
        is(0, "insert T0 c0 = 1", "0@-1");
        is(0, "insert T0", "1@2");
        is(0, "insert V0 c0 = 1", "1@1");
        is(0, "insert T0 set c0 = 1", "1@2");
        is(0, "insert T0 c0 = 1 where c0 = 1", "1@5");
        is(0, "insert T0 c0 1", "1@3");
        is(0, "insert T0 a c0 = 1", "1@2");
        is(0, "update T0 c0 = 1", "1@2");
        is(0, "update T0 set c0 = 1", "0@-1");
        is(0, "update T0 set c0 = 1 , c1 = 2 where c1 = 3", "0@-1");
        is(0, "update T0 set c0 = 1 , where c1 = 3", "1@7");
        is(0, "update T0 set", "1@3");
        is(0, "update T0 set c0 = 1 , c1 = 2 , c0 = 1 , c1 = 1 , c0 = 1", "1@18");
        is(0, "delete T0", "0@-1");
        is(0, "delete T0 where", "1@3");
        is(0, "delete from T0", "1@1");
        is(0, "delete T0 c0", "1@2");
    }

    private static void nests() {
        is(2, "( ( ( ( p ) ) ) )", "0@-1");
        is(2, "( ( ( ( ( p ) ) ) ) )", "1@4");
        is(2, "- - - - p", "0@-1");
        is(2, "- - - - - p", "1@4");
        is(2, "- ( - F0 ( p ) )", "0@-1");
        is(2, "- ( - ( F0 ( p ) ) )", "1@5");
        is(2, "( p ) + ( p ) + ( p ) + ( p ) + ( p )", "0@-1");
        is(3, "not not not not c0 = 1", "0@-1");
        is(3, "not not not not not c0 = 1", "1@4");
        is(3, "not [ not [ c0 = 1 ] ]", "0@-1");
        is(3, "not [ not [ c0 = ( 1 ) ] ]", "1@6");
        is(3, "not [ not [ c0 in ( 1 ) ] ]", "1@6");
        is(3, "not [ not [ c0 not in ( 1 ) ] ]", "1@7");
        is(3, "[ [ [ c0 in ( - 1 ) ] ] ]", "1@6");
        is(3, "not not not not c0 is not null", "0@-1");
        is(3, "not not not not exists ( select", "1@5");
        is(0, "select ( ( ( ( select c0 from T1 ) ) ) ) from T0", "0@-1");
        is(0, "select ( ( ( ( select ( c0 ) from T1 ) ) ) ) from T0", "1@6");
        is(0, "select ( ( ( ( select count ( * ) from T1 ) ) ) ) from T0", "1@7");
        is(0, "select ( ( ( ( select c0 from T1 where not c0 = 1 ) ) ) ) from T0", "1@10");
        is(0, "select ( ( ( ( select c0 from T1 where c0 is not null ) ) ) ) from T0", "0@-1");
    }

    private static void names() {
        is(0, "select * from T2", "2@3");
        is(0, "select * from V1", "2@3");
        is(0, "select F2 ( c0 ) from T0", "2@1");
        is(0, "select c2 from T0", "2@1");
        is(0, "select a c2 from T0", "2@1");
        is(0, "select b c0 from T0", "2@1");
        is(0, "select b c0 from T0 , T1", "0@-1");
        is(0, "select b c1 from T0 , T1", "2@1");
        is(0, "select outer c0 from T0", "2@1");
        is(0, "select c0 from T0 group outer c0", "4@1");
        is(0, "select count ( * ) from T0 group outer c0", "2@8");
        is(0, "select c0 from T2", "2@1");
        is(0, "insert T2 c0 = 1", "2@1");
        is(0, "insert T0 c2 = 1", "2@2");
        is(0, "insert T0 c0 = c0", "2@4");
        is(0, "insert T0 c0 = outer c0", "2@4");
        is(0, "insert T0 c0 = ( select outer c0 from T1 )", "2@6");
        is(0, "insert T0 c0 = ( select c0 from T1 )", "0@-1");
        is(0, "update T0 set c0 = b c0", "2@5");
        is(0, "update T0 set c0 = a c1", "0@-1");
        is(0, "update T0 set c0 = outer c1", "2@5");
        is(0, "update T0 set c0 = ( select outer c1 from T1 )", "0@-1");
        is(0, "update T0 set c0 = ( select outer a c1 from T1 )", "0@-1");
        is(0, "update T0 set c0 = ( select outer b c0 from T1 )", "2@7");
        is(0, "update T0 set c3 = 1", "2@3");
        is(0, "update T2 set c0 = 1", "2@1");
        is(0, "delete T2", "2@1");
        is(0, "delete T0 where c2 = 1", "2@3");
        is(0, "select c0 from T0 where exists ( select c0 from T1 where c0 = outer c1 )", "0@-1");
        is(0, "select c0 from T0 where exists ( select c0 from T1 where c0 = outer b c0 )", "2@14");
        is(0, "select c0 from T0 , T1 where exists ( select c0 from T1 where c0 = outer b c0 )", "0@-1");
        is(1, "select * from V0", "0@-1");
        d.view(0, 3, "select * from T0", true);
        is(1, "select * from V3", "2@3");
        is(1, "select c0 from V3", "2@1");
        is(0, "select c0 from V3", "0@-1");
        is(2, "F1 ( p )", "0@-1");
        is(2, "F2 ( p )", "2@0");
        d.function(0, 3, "p", true);
        is(2, "F3 ( p )", "2@0");
        is(3, "F3 ( c0 ) = 1", "0@-1");
        is(3, "c1 = 1", "0@-1");
        is(3, "a c1 = 1", "0@-1");
        is(3, "c2 = 1", "2@0");
        is(3, "b c0 = 1", "2@0");
        is(3, "outer c0 = 1", "2@0");
        d.base.drop(0, 0);
        is(3, "c0 = 1", "2@0");
        is(0, "select * from V0", "2@3");
        is(0, "select c0 from V0", "2@1");
        d.base.make(0, 0, 2);
        is(0, "select * from V0", "0@-1");
    }

    private static void rights() {
        d.base.grant(0, 0, 2, 1, 1, false);
        Desk.is("known, no column", d.fault(1, 0, "select * from T0"), "3@3");
        Desk.is("a ref ahead of it", d.fault(1, 0, "select c1 from T0"), "2@1");
        Desk.is("count", d.fault(1, 0, "select count ( * ) from T0"), "3@6");
        Desk.is("update of what is not seen", d.fault(1, 0, "update T0 set c1 = 1"), "0@-1");
        Desk.is("update of neither", d.fault(1, 0, "update T0 set c0 = 1"), "2@3");
        Desk.is("a ref there", d.fault(1, 0, "update T0 set c1 = c1"), "2@5");
        Desk.is("insert of neither", d.fault(1, 0, "insert T0 c1 = 1"), "2@2");
        Desk.is("delete", d.fault(1, 0, "delete T0"), "3@1");
        d.base.grant(0, 0, 0, 0, 1, false);
        Desk.is("one column", d.fault(1, 0, "select * from T0"), "0@-1");
        Desk.is("the other one", d.fault(1, 0, "select c1 from T0"), "2@1");
        Desk.is("seen, not to be updated", d.fault(1, 0, "update T0 set c0 = 1"), "3@3");
        Desk.is("seen, not to be inserted", d.fault(1, 0, "insert T0 c0 = 1"), "3@2");
        Desk.is("not known", d.fault(2, 0, "delete T0"), "2@1");
        d.base.grant(0, 0, 3, -1, 1, false);
        Desk.is("delete with the right", d.fault(1, 0, "delete T0 where c0 = 1"), "0@-1");
        Desk.is("delete by what is not seen", d.fault(1, 0, "delete T0 where c1 = 1"), "2@3");
        d.base.grant(0, 8, 4, -1, 1, false);
        Desk.is("a function that is known", d.fault(1, 0, "select F0 ( c0 ) from T0"), "0@-1");
        Desk.is("one that is not", d.fault(1, 0, "select F1 ( c0 ) from T0"), "2@1");
        Desk.is("a view that is not known", d.fault(1, 0, "select * from V0"), "2@3");
        d.base.grant(0, 4, 0, 3, 1, false);
        Desk.is("known, but of no column that it has", d.fault(1, 0, "select * from V0"), "3@3");
        d.base.grant(0, 4, 0, 1, 1, false);
        Desk.is("one column of a view", d.fault(1, 0, "select c1 from V0"), "0@-1");
        Desk.is("another column of a view", d.fault(1, 0, "select c0 from V0"), "2@1");
        d.base.drop(0, 4);
        d.view(0, 0, "select a c0 , b c0 from T0 , T1", false);
        d.base.grant(0, 4, 0, -1, 1, false);
        Desk.is("broken for who asks", d.fault(1, 0, "select * from V0"), "2@3");
        Desk.is("not for its owner", d.fault(0, 0, "select * from V0"), "0@-1");
        d.base.grant(0, 1, 0, -1, 1, false);
        Desk.is("not broken any more", d.fault(1, 0, "select * from V0"), "0@-1");
    }

    private static void misused() {
        is(0, "insert T0 c0 = 1 , c0 = 2", "4@6");
        is(0, "insert T0 c0 = 1 , c2 = 2 , c0 = 1", "2@6");
        is(0, "update T0 set c0 = 1 , c1 = 1 , c1 = 2", "4@11");
        is(0, "select c0 from T0 where count ( * ) = 1", "4@5");
        is(0, "select sum ( count ( * ) ) from T0", "4@3");
        is(0, "select sum ( ( select count ( * ) from T1 ) ) from T0", "0@-1");
        is(0, "select sum ( c0 ) + max ( c1 ) from T0", "0@-1");
        is(0, "select F0 ( sum ( c0 ) ) from T0", "0@-1");
        is(0, "insert T0 c0 = max ( 1 )", "4@4");
        is(0, "update T0 set c0 = max ( c0 )", "4@5");
        is(0, "select c0 , count ( * ) from T0", "4@1");
        is(0, "select count ( * ) , c0 from T0", "4@6");
        is(0, "select count ( * ) , c0 from T0 group c0", "0@-1");
        is(0, "select count ( * ) , a c0 from T0 group c0", "0@-1");
        is(0, "select count ( * ) , c0 from T0 group a c0", "0@-1");
        is(0, "select count ( * ) , c1 from T0 group c0", "4@6");
        is(0, "select count ( * ) , b c0 from T0 , T1 group a c0", "4@6");
        is(0, "select b c0 from T0 , T1 group b c0", "0@-1");
        is(0, "select count ( c1 ) , c0 + c0 from T0 group c0", "0@-1");
        is(0, "select * from T0 group c0", "4@1");
        is(0, "select count ( * ) , ( select c0 from T1 where c0 = outer c1 ) from T0", "0@-1");
        is(0, "select ( select count ( * ) from T1 ) , c1 from T0", "0@-1");
        is(0, "select c0 from T0 where exists ( select c0 from T1 group outer c0 )", "4@8");
        is(0, "select c0 from T0 where exists ( select count ( * ) from T1 group outer c0 )", "4@15");
        is(0, "select ( select c0 , c0 from T1 ) from T0", "4@2");
        is(0, "select ( select * from T1 ) from T0", "0@-1");
        is(0, "select ( select * from T0 ) from T0", "4@2");
        is(0, "select ( select * from T2 ) from T0", "4@2");
        is(0, "select ( select c0 from T2 ) from T0", "2@3");
        is(0, "select c0 from T0 where exists ( select * from T0 )", "0@-1");
        is(0, "select c0 from T0 where exists ( select c0 from V0 )", "4@10");
        is(0, "select c0 from T0 where exists ( select c0 from V2 )", "2@8");
        is(0, "select c0 from T0 where exists ( select c0 from T0 , T1 )", "4@12");
        is(0, "select c0 from T0 where exists ( select * from T0 , T2 )", "2@12");
        is(0, "select c0 from T0 where exists ( select ( select c0 from T1 ) from T0 )", "4@9");
        is(0, "insert T0 c0 = ( select ( select c0 from T1 ) from T1 )", "4@7");
        is(0, "insert T0 c0 = ( select c0 from V0 )", "4@8");
        is(0, "update T0 set c0 = ( select c0 from T0 , T1 )", "4@11");
        is(0, "delete T0 where exists ( select c0 from V0 )", "4@8");
        is(0, "select p from T0", "4@1");
        is(0, "insert T0 c0 = p", "4@4");
        is(3, "p = 1", "4@0");
        is(2, "p", "0@-1");
        is(2, "( select c0 from T0 )", "4@1");
        is(2, "( select c0 , c1 from T3 )", "4@1");
        is(3, "exists ( select c0 from T0 )", "4@2");
        is(2, "F0 ( F0 ( p ) )", "4@2");
        is(2, "F0 ( p ) + F1 ( p ) + F1 ( p )", "4@5");
        is(2, "F0 ( p ) + F3 ( p )", "2@5");
        is(3, "F0 ( c0 ) = F1 ( c0 )", "0@-1");
        is(2, "count ( * )", "4@0");
        is(3, "min ( c0 ) = 1", "4@0");
        is(0, "select max ( c0 ) , c3 from T0", "2@6");
    }

    public static void main(String[] args) {
        prepare();
        syntax();
        statements();
        nests();
        names();
        prepare();
        rights();
        prepare();
        misused();
        Desk.end("LanguageTest");
    }
}
