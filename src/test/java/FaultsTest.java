/** Section 5: each ERROR 2 to 4 at its PLACE, and what is just no ERROR; which of several ones counts. */
public final class FaultsTest {
    private static final String NO = "0@-1";
    private static Desk d;

    /**
     * ACTOR 0 owns T0 of one COLUMN, T1 of two, T2 of four, V0 of T1, F0 and F1. ACTOR 1 SEES c1 of
     * T1 alone; ACTOR 2 SEES nothing.
     */
    private static void prepare() {
        d = new Desk();
        d.base.make(0, 0, 1);
        d.base.make(0, 1, 2);
        d.base.make(0, 2, 4);
        d.view(0, 0, "select c0 , c1 from T1", true);
        d.function(0, 0, "p", true);
        d.function(0, 1, "p + 1", true);
        d.base.grant(0, 1, 0, 1, 1, false);
    }

    /** For ACTOR 0. */
    private static void is(int form, String text, String due) {
        Desk.is(form + ": " + text, d.fault(form, text), due);
    }

    private static void of(int actor, int form, String text, String due) {
        Desk.is("for " + actor + ", " + form + ": " + text, d.fault(actor, form, text), due);
    }

    /** "SOURCES of a query are a and b in their sequence. A ref without a or b is of a". */
    private static void sources() {
        prepare();
        is(0, "select c0 from T0 , T1", NO);
        is(0, "select c1 from T0 , T1", "2@1");
        is(0, "select a c1 from T0 , T1", "2@1");
        is(0, "select b c1 from T0 , T1", NO);
        is(0, "select b c2 from T0 , T1", "2@1");
        is(0, "select c1 from T1 , T0", NO);
        is(0, "select b c1 from T1 , T0", "2@1");
        is(0, "select b c0 from T1", "2@1");
        is(0, "select 1 from T1 where b c0 = 1", "2@5");
        is(0, "select 1 from T1 group b c0", "2@5");
        is(0, "select 1 from T1 , T0 group b c0", NO);
        is(0, "select 1 from T1 , T0 group b c1", "2@7");
    }

    /** "with outer of those of the query directly around this one (none around a whole one)". */
    private static void outer() {
        prepare();
        is(0, "select outer c0 from T0", "2@1");
        is(0, "select outer a c0 from T0", "2@1");
        is(0, "select 1 from T0 where outer c0 = 1", "2@5");
        is(0, "select 1 from T0 group outer c0", "2@5");
        String within = "select 1 from T1 where exists ( select 1 from T0 where outer ";
        is(0, within + "c1 = 1 )", NO);
        is(0, within + "c2 = 1 )", "2@12");
        is(0, within + "a c1 = 1 )", NO);
        is(0, within + "b c0 = 1 )", "2@12");
        is(0, "select 1 from T0 , T1 where exists ( select 1 from T0 where outer b c1 = 1 )", NO);
        is(0, "select 1 from T0 , T1 where exists ( select 1 from T0 where outer a c1 = 1 )", "2@14");
        is(0, "select ( select outer c1 from T0 ) from T1", NO);
        is(1, "select outer c0 from T0", "2@1");
        is(1, within + "c1 = 1 )", NO);
    }

    /** "In update and delete the TABLE is a (also with outer for a query in it)". */
    private static void tablesOfChanges() {
        prepare();
        is(0, "update T1 set c0 = c1 where a c1 = 1", NO);
        is(0, "update T1 set c0 = c2", "2@5");
        is(0, "update T1 set c0 = 1 where c2 = 1", "2@7");
        is(0, "update T1 set c0 = b c0", "2@5");
        is(0, "update T1 set c0 = outer c0", "2@5");
        is(0, "update T1 set c0 = ( select outer c1 from T0 )", NO);
        is(0, "update T1 set c0 = ( select outer a c1 from T0 )", NO);
        is(0, "update T1 set c0 = ( select outer c2 from T0 )", "2@7");
        is(0, "update T1 set c0 = ( select outer b c0 from T0 )", "2@7");
        is(0, "update T0 set c0 = ( select c1 from T1 )", NO);
        is(0, "delete T1 where c1 = 1 and a c0 = 1", NO);
        is(0, "delete T1 where c2 = 1", "2@3");
        is(0, "delete T1 where b c0 = 1", "2@3");
        is(0, "delete T1 where outer c0 = 1", "2@3");
        is(0, "delete T1 where exists ( select 1 from T0 where outer c1 = 1 )", NO);
        is(0, "delete T1 where exists ( select 1 from T0 where outer b c1 = 1 )", "2@10");
    }

    /** "in a POLICY, too, and all its COLUMNS are there, whoever SEES them": of T0, if it is there. */
    private static void tableOfPolicy() {
        prepare();
        is(3, "c0 = 1", NO);
        is(3, "a c0 = 1", NO);
        is(3, "c1 = 1", "2@0");
        is(3, "b c0 = 1", "2@0");
        is(3, "outer c0 = 1", "2@0");
        of(2, 3, "c0 = 1", NO);
        of(2, 3, "c1 = 1", "2@0");
        Desk.is("of another TABLE", d.policy(0, 2, 0, "c3 = 1", 0, 1), 1);
        Desk.is("of one without c3", d.policy(0, 1, 0, "c3 = 1", 0, 1), -12);
        d.base.drop(0, 0);
        is(3, "c0 = 1", "2@0");
        is(3, "0 = 1", NO);
        d.base.make(2, 0, 3);
        is(3, "c2 = 1", NO);
        is(3, "c3 = 1", "2@0");
    }

    /** "In insert and in a FUNCTION there is none". */
    private static void noSources() {
        prepare();
        is(0, "insert T1 c0 = c1", "2@4");
        is(0, "insert T1 c0 = a c1", "2@4");
        is(0, "insert T1 c0 = b c1", "2@4");
        is(0, "insert T1 c0 = outer c1", "2@4");
        is(0, "insert T1 c0 = ( select c1 from T1 )", NO);
        is(0, "insert T1 c0 = ( select outer c1 from T1 )", "2@6");
        is(0, "insert T1 c0 = ( select 1 from T1 where outer a c1 = 1 )", "2@10");
        is(2, "c0", "2@0");
        is(2, "p + a c0", "2@2");
        is(2, "p + b c0", "2@2");
        is(2, "p + outer c0", "2@2");
    }

    /** "COLUMNS of a SOURCE are those of it that the RUNNER SEES". */
    private static void seenColumns() {
        prepare();
        of(1, 0, "select c1 from T1", NO);
        of(1, 0, "select c0 from T1", "2@1");
        of(1, 0, "select * from T1", NO);
        of(1, 0, "select c1 from T1 where c0 = 1", "2@5");
        of(1, 0, "select 1 from T1 group c0", "2@5");
        of(1, 0, "select 1 from T1 group c1", NO);
        d.base.grant(0, 4, 0, 0, 1, false);
        of(1, 0, "select c0 from V0", NO);
        of(1, 0, "select c1 from V0", "2@1");
        d.base.grant(0, 1, 2, -1, 1, false);
        of(1, 0, "update T1 set c0 = 1", NO);
        of(1, 0, "update T1 set c0 = c1", NO);
        of(1, 0, "update T1 set c0 = c0", "2@5");
        of(1, 0, "update T1 set c0 = 1 where c0 = 1", "2@7");
        of(1, 0, "update T1 set c0 = ( select outer c0 from T1 )", "2@7");
        d.base.grant(0, 1, 3, -1, 1, false);
        of(1, 0, "delete T1 where c1 = 1", NO);
        of(1, 0, "delete T1 where c0 = 1", "2@3");
    }

    /** COLUMNS of a VIEW: "for * all ... that its own RUNNER SEES". */
    private static void columnsOfViews() {
        prepare();
        d.base.make(1, 3, 3);
        d.base.grant(1, 3, 0, -1, 0, false);
        d.base.grant(1, 3, 0, -1, 2, false);
        Desk.is("one of its own, and three", d.view(1, 1, "select * from T1 , T3", true), 4);
        d.base.grant(1, 5, 0, -1, 0, false);
        is(0, "select c0 , c1 , c2 , c3 from V1", NO);
        d.base.drop(1, 5);
        Desk.is("as for its maker", d.view(1, 1, "select * from T1 , T3", false), 4);
        d.base.grant(1, 5, 0, -1, 0, false);
        d.base.grant(1, 5, 0, -1, 2, false);
        Desk.is("for who sees five, four", d.base.sees(0, 0, 5), 15);
        Desk.is("for its owner, four", d.base.sees(0, 1, 5), 15);
        Desk.is("for who sees none of a", d.base.sees(0, 2, 5), 0);
        d.base.drop(1, 5);
        Desk.is("one of two", d.view(1, 1, "select * from T1", false), 1);
        d.base.grant(1, 5, 0, -1, 0, false);
        Desk.is("both for another one", d.base.sees(0, 0, 5), 3);
        is(0, "select c1 from V1", NO);
        of(1, 0, "select c1 from V1", "2@1");
        Desk.is("a VIEW of it with OWNER's rights", d.view(1, 2, "select * from V1", true), 1);
        d.base.grant(1, 6, 0, -1, 0, false);
        Desk.is("one for all", d.base.sees(0, 0, 6), 1);
        Desk.is("a VIEW of it with ASKER's rights", d.view(1, 3, "select * from V1", false), 1);
        d.base.grant(1, 7, 0, -1, 0, false);
        Desk.is("two for who sees two", d.base.sees(0, 0, 7), 3);
    }

    /** "A VIEW is BROKEN for a RUNNER, if its query has an ERROR for its own RUNNER". */
    private static void broken() {
        prepare();
        d.view(0, 1, "select c1 from T1", false);
        d.view(0, 2, "select c0 from V1", true);
        d.view(0, 3, "select c0 from V1", false);
        for (int view = 4; view < 8; view++) {
            d.base.grant(0, view, 0, -1, 1, false);
            d.base.grant(0, view, 0, -1, 2, false);
        }
        of(2, 0, "select * from V0", NO);
        of(2, 0, "select * from V1", "2@3");
        of(2, 0, "select c0 from V1", "2@1");
        of(2, 0, "select * from V2", NO);
        of(2, 0, "select * from V3", "2@3");
        of(1, 0, "select * from V1", NO);
        of(1, 0, "select * from V3", NO);
        is(0, "select * from V3", NO);
        d.base.own(0, 4, 1);
        of(2, 0, "select * from V0", "2@3");
        is(0, "select * from V0", "2@3");
        d.base.own(1, 4, 0);
        is(0, "select * from V0", NO);
        d.base.drop(0, 5);
        of(1, 0, "select * from V2", "2@3");
        is(0, "select * from V3", "2@3");
        d.view(0, 1, "select 1 from T0", true);
        is(0, "select * from V3", NO);
        of(2, 0, "select * from V2", NO);
    }

    /** ERROR 2: "a T, V or F that is not KNOWN", wherever it stands. */
    private static void unknown() {
        prepare();
        of(2, 0, "select * from T1", "2@3");
        of(2, 0, "select * from V0", "2@3");
        of(2, 0, "insert T1 c0 = 1", "2@1");
        of(2, 0, "update T1 set c0 = 1", "2@1");
        of(2, 0, "delete T1", "2@1");
        of(1, 0, "select F0 ( 1 ) from T1", "2@1");
        of(1, 0, "select * from T1 where F0 ( 1 ) = 1", "2@5");
        of(1, 0, "select * from T1 , T0", "2@5");
        of(1, 0, "select * from T1 where exists ( select 1 from T0 )", "2@10");
        of(1, 1, "select * from T1 , V0", "2@5");
        of(1, 2, "F0 ( p )", "2@0");
        of(1, 3, "c0 = F0 ( 1 )", "2@2");
        d.base.grant(0, 1, 1, 0, 2, false);
        of(2, 0, "insert T1 c0 = F0 ( 1 )", "2@4");
        of(2, 0, "insert T1 c0 = 1", NO);
        d.base.grant(0, 8, 4, -1, 2, false);
        of(2, 0, "insert T1 c0 = F0 ( 1 )", NO);
        of(2, 2, "F0 ( p )", NO);
        of(2, 3, "c0 = F0 ( 1 )", NO);
        is(0, "select * from T3", "2@3");
        is(0, "insert T3 c0 = 1", "2@1");
        is(0, "update T3 set c0 = 1", "2@1");
        is(0, "delete T3", "2@1");
        is(0, "select * from V3", "2@3");
        is(0, "select F3 ( 1 ) from T0", "2@1");
    }

    /** "in the query of a VIEW a V whose number is not below that of this one, in a FUNCTION an F likewise". */
    private static void numbers() {
        for (int number = 0; number < 4; number++) {
            prepare();
            d.base.drop(0, 8);
            d.base.drop(0, 9);
            d.base.drop(0, 4);
            for (int i = 0; i < 4; i++) {
                d.view(0, i, "select c0 from T0", true);
                d.function(0, i, "p", true);
            }
            d.base.drop(0, 4 + number);
            d.base.drop(0, 8 + number);
            for (int other = 0; other < 4; other++) {
                boolean isBelow = other < number;
                int columns = d.view(0, number, "select c0 from V" + other, true);
                Desk.is("V" + number + " of V" + other, columns, isBelow ? 1 : -12);
                int tokens = d.function(0, number, "F" + other + " ( p )", true);
                Desk.is("F" + number + " of F" + other, tokens, isBelow ? 4 : -12);
                d.base.drop(0, 4 + number);
                d.base.drop(0, 8 + number);
            }
        }
        prepare();
        for (int i = 0; i < 4; i++) {
            d.view(0, i, "select c0 from T0", true);
            d.function(0, i, "p", true);
            String n = Integer.toString(i);
            is(0, "select * from V" + n, NO);
            is(1, "select * from V" + n, i < 3 ? NO : "2@3");
            is(1, "select c0 from V" + n, i < 3 ? NO : "2@1");
            is(2, "F" + n + " ( p )", i < 3 ? NO : "2@0");
            is(3, "F" + n + " ( c0 ) = 1", NO);
            is(1, "select F" + n + " ( c0 ) from T0", NO);
            is(0, "insert T0 c0 = F" + n + " ( 1 )", NO);
        }
        is(1, "select ( select * from V3 ) from T0", "4@2");
        is(0, "select ( select * from V3 ) from T0", "4@5");
    }

    /** "in insert and update a C ahead of = that the TABLE has not, or that the RUNNER neither SEES nor HAS". */
    private static void setNames() {
        prepare();
        is(0, "insert T1 c1 = 1", NO);
        is(0, "insert T1 c2 = 1", "2@2");
        is(0, "insert T1 c0 = 1 , c3 = 1", "2@6");
        is(0, "update T1 set c1 = 1", NO);
        is(0, "update T1 set c2 = 1", "2@3");
        is(0, "update T1 set c0 = 1 , c3 = 1", "2@7");
        of(1, 0, "insert T1 c0 = 1", "2@2");
        of(1, 0, "update T1 set c0 = 1", "2@3");
        d.base.grant(0, 1, 1, 0, 1, false);
        of(1, 0, "insert T1 c0 = 1", NO);
        of(1, 0, "update T1 set c0 = 1", "2@3");
        d.base.grant(0, 1, 2, 0, 2, false);
        of(2, 0, "update T1 set c0 = 1", NO);
        of(2, 0, "update T1 set c1 = 1", "2@3");
        of(2, 0, "insert T1 c0 = 1", "2@2");
        d.base.grant(0, 1, 2, 3, 2, false);
        of(2, 0, "update T1 set c3 = 1", "2@3");
    }

    /** ERROR 3: "a SOURCE of a query that is KNOWN, but of which no COLUMN is SEEN". */
    private static void unseenSources() {
        prepare();
        for (int right = 1; right <= 3; right++) {
            d.base.grant(0, right - 1, right, -1, 2, false);
            String t = "T" + (right - 1);
            of(2, 0, "select count ( * ) from " + t, "3@6");
            of(2, 0, "select 1 from " + t, "3@3");
            of(2, 0, "select c0 from " + t, "2@1");
        }
        of(1, 0, "select 1 from T1 , T0", "2@5");
        d.base.grant(0, 0, 1, -1, 1, false);
        of(1, 0, "select 1 from T1 , T0", "3@5");
        of(1, 0, "select 1 from T1 where exists ( select 1 from T0 )", "3@10");
        d.base.grant(0, 0, 0, 1, 1, false);
        of(1, 0, "select 1 from T1 , T0", "3@5");
        d.base.grant(0, 0, 0, 0, 1, false);
        of(1, 0, "select 1 from T1 , T0", NO);
        d.base.grant(0, 4, 0, 2, 1, false);
        of(1, 0, "select 1 from V0", "3@3");
        d.base.grant(0, 4, 0, 1, 1, false);
        of(1, 0, "select 1 from V0", NO);
    }

    /** "of a VIEW that is BROKEN ERROR 2 alone; a T of insert, update and delete has to be KNOWN alone". */
    private static void unseenElsewhere() {
        prepare();
        d.view(0, 1, "select c0 from T1", false);
        d.base.grant(0, 5, 0, 3, 1, false);
        of(1, 0, "select 1 from V1", "2@3");
        d.base.grant(0, 2, 1, 0, 1, false);
        of(1, 0, "insert T2 c0 = 1", NO);
        d.base.grant(0, 2, 2, 0, 1, false);
        of(1, 0, "update T2 set c0 = 1", NO);
        d.base.grant(0, 2, 3, -1, 1, false);
        of(1, 0, "delete T2", NO);
        of(1, 0, "select 1 from T2", "3@3");
    }

    /** "a C ahead of = that is SEEN, but for which the RIGHT is not had; a T behind delete ... DELETE is not had". */
    private static void rights() {
        prepare();
        of(1, 0, "insert T1 c1 = 1", "3@2");
        of(1, 0, "update T1 set c1 = 1", "3@3");
        of(1, 0, "delete T1", "3@1");
        d.base.grant(0, 1, 1, 0, 1, false);
        of(1, 0, "insert T1 c0 = 1 , c1 = 1", "3@6");
        d.base.grant(0, 1, 1, 1, 1, false);
        of(1, 0, "insert T1 c0 = 1 , c1 = 1", NO);
        of(1, 0, "update T1 set c1 = 1", "3@3");
        of(1, 0, "delete T1", "3@1");
        d.base.grant(0, 1, 2, -1, 1, false);
        of(1, 0, "update T1 set c1 = 1", NO);
        of(1, 0, "delete T1 where c1 = 1", "3@1");
        d.base.grant(0, 1, 3, -1, 1, false);
        of(1, 0, "delete T1 where c1 = 1", NO);
    }

    /** ERROR 4: "a C ahead of = for the second time". */
    private static void twice() {
        prepare();
        is(0, "insert T2 c0 = 1 , c1 = 1 , c2 = 1 , c3 = 1", NO);
        is(0, "insert T2 c3 = 1 , c3 = 1", "4@6");
        is(0, "insert T2 c0 = 1 , c1 = 1 , c2 = 1 , c0 = 1", "4@14");
        is(0, "insert T2 c0 = 1 , c1 = 1 , c2 = 1 , c2 = 1", "4@14");
        is(0, "insert T2 c1 = 1 , c1 = 1 , c1 = 1", "4@6");
        is(0, "update T2 set c3 = 1 , c2 = 1 , c1 = 1 , c0 = 1", NO);
        is(0, "update T2 set c0 = 1 , c0 = 1", "4@7");
        is(0, "update T2 set c0 = 1 , c1 = 1 , c2 = 1 , c1 = 1", "4@15");
        is(0, "update T2 set c0 = c0 + c0", NO);
    }

    /** "an aggregate but in what of the query directly around it, or within another one of the same query". */
    private static void aggregates() {
        prepare();
        for (String aggregate : new String[] {"count ( * )", "count ( 1 )", "sum ( 1 )", "min ( 1 )", "max ( 1 )"}) {
            is(0, "select " + aggregate + " from T0", NO);
            is(0, "select F0 ( 1 + " + aggregate + " ) from T0", NO);
            is(0, "select 1 from T0 where " + aggregate + " = 1", "4@5");
            is(0, "select 1 from T0 where 1 = " + aggregate, "4@7");
            is(0, "insert T0 c0 = " + aggregate, "4@4");
            is(0, "insert T0 c0 = ( select " + aggregate + " from T0 )", NO);
            is(0, "insert T0 c0 = ( select 1 from T0 where 1 = " + aggregate + " )", "4@12");
            is(0, "update T0 set c0 = " + aggregate, "4@5");
            is(0, "update T0 set c0 = 1 where 1 = " + aggregate, "4@9");
            is(0, "delete T0 where 1 = " + aggregate, "4@5");
            is(0, "delete T0 where exists ( select " + aggregate + " from T0 )", NO);
            is(2, "p + " + aggregate, "4@2");
            is(3, "1 = " + aggregate, "4@2");
            is(0, "select sum ( " + aggregate + " ) from T0", "4@3");
            is(0, "select count ( 1 + " + aggregate + " ) from T0", "4@5");
            is(0, "select max ( ( select " + aggregate + " from T0 ) ) from T0", NO);
            is(0, "select max ( ( select 1 from T0 where 1 = " + aggregate + " ) ) from T0", "4@11");
            is(0, "select ( select " + aggregate + " from T0 ) from T0", NO);
            is(0, "select ( select 1 from T0 where " + aggregate + " = 1 ) from T0", "4@7");
            is(0, "select 1 from T0 where exists ( select " + aggregate + " from T0 )", NO);
            is(0, "select 1 from T0 where exists ( select 1 from T0 where " + aggregate + " = 1 )", "4@12");
        }
    }

    /** "in a query with group or with an aggregate in its what: * as what, and a ref ... unless the same one". */
    private static void grouped() {
        prepare();
        is(0, "select * from T1 group c0", "4@1");
        is(0, "select distinct * from T1 group c0", "4@2");
        is(0, "select c0 from T1 group c0", NO);
        is(0, "select c1 from T1 group c0", "4@1");
        is(0, "select a c0 from T1 group c0", NO);
        is(0, "select c0 from T1 group a c0", NO);
        is(0, "select b c0 from T1 , T1 group c0", "4@1");
        is(0, "select c0 from T1 , T1 group b c0", "4@1");
        is(0, "select b c0 from T1 , T1 group b c0", NO);
        is(0, "select b c1 from T1 , T1 group b c0", "4@1");
        is(0, "select c0 , 1 + 2 * c1 from T1 group c0", "4@7");
        is(0, "select c0 , F0 ( c1 ) from T1 group c0", "4@5");
        is(0, "select c0 , F0 ( c0 ) from T1 group c0", NO);
        is(0, "select c0 , max ( c1 ) from T1 group c0", NO);
        is(0, "select 1 from T1 where c1 = 1 group c0", NO);
        is(0, "select c1 , count ( * ) from T1", "4@1");
        is(0, "select count ( * ) , a c1 from T1", "4@6");
        is(0, "select 1 + count ( * ) from T1 where c1 = 1", NO);
        is(0, "select count ( c0 ) + c0 from T1", "4@6");
        // Within a query that stands there, and with outer, it is no matter.
        is(0, "select ( select c1 from T1 ) from T0 group c0", NO);
        is(0, "select ( select outer c1 from T0 ) from T1 group c0", NO);
        is(0, "select ( select max ( c1 ) from T1 ) , c1 from T1", NO);
        is(0, "select 1 from T1 where exists ( select count ( * ) , outer c1 from T0 )", NO);
        is(0, "select 1 from T1 where exists ( select outer c1 from T0 group c0 )", NO);
        is(0, "select 1 from T1 where exists ( select c1 from T1 group c0 )", "4@8");
        is(0, "select 1 from T1 where exists ( select * from T1 group c0 )", "4@8");
        is(0, "select * from T1 where exists ( select c0 from T1 group c0 )", NO);
    }

    /** "outer behind group". */
    private static void outerBehindGroup() {
        prepare();
        is(0, "select 1 from T1 where exists ( select 1 from T0 group c0 )", NO);
        is(0, "select 1 from T1 where exists ( select 1 from T0 group outer c0 )", "4@12");
        is(0, "select 1 from T1 where exists ( select 1 from T0 group outer a c1 )", "4@12");
        is(0, "select 1 from T1 where exists ( select 1 from T0 group outer c2 )", "2@12");
        is(0, "select 1 from T1 where exists ( select c0 from T0 group outer c0 )", "4@8");
        is(0, "update T0 set c0 = ( select 1 from T1 group outer c0 )", "4@11");
        is(0, "insert T0 c0 = ( select 1 from T1 group outer c0 )", "2@10");
    }

    /** "a query as a factor with other than one COLUMN (of * those that are SEEN, of what is not KNOWN none)". */
    private static void factors() {
        prepare();
        is(0, "select ( select 1 from T1 ) from T0", NO);
        is(0, "select ( select 1 , 2 from T1 ) from T0", "4@2");
        is(0, "select ( select 1 , 2 , 3 , 4 from T1 ) from T0", "4@2");
        is(0, "select ( select * from T0 ) from T0", NO);
        is(0, "select ( select * from T1 ) from T0", "4@2");
        of(1, 0, "select ( select * from T1 ) from T1", NO);
        of(1, 0, "select ( select * from T0 ) from T1", "4@2");
        of(1, 0, "select ( select 1 from T0 ) from T1", "2@5");
        of(2, 0, "insert T1 c0 = ( select * from T1 )", "2@1");
        is(0, "select ( select * from T3 ) from T0", "4@2");
        is(0, "select ( select * from T0 , T3 ) from T0", "2@7");
        is(0, "select ( select * from T0 , T0 ) from T0", "4@2");
        is(0, "insert T0 c0 = ( select * from T1 )", "4@5");
        is(0, "update T0 set c0 = ( select 1 , 2 from T1 )", "4@6");
        is(0, "delete T0 where ( select * from T1 ) = 1", "4@4");
        is(0, "select 1 from T0 where exists ( select * from T1 )", NO);
        is(0, "select 1 from T0 where exists ( select 1 , 2 from T1 )", NO);
        d.base.grant(0, 0, 1, -1, 1, false);
        of(1, 0, "select ( select * from T0 ) from T1", "4@2");
    }

    /** "in a query that stands within a query, an insert, update or delete: a query, a V, a second source". */
    private static void within() {
        prepare();
        String[] around = {"select 1 from T0 where 1 = (", "insert T0 c0 = (", "update T0 set c0 = (",
            "delete T0 where 1 = ("};
        for (String start : around) {
            int at = start.split(" ").length;
            is(0, start + " select 1 from T1 )", NO);
            is(0, start + " select 1 from V0 )", "4@" + (at + 3));
            is(0, start + " select 1 from T1 , T0 )", "4@" + (at + 5));
            is(0, start + " select ( select 1 from T0 ) from T1 )", "4@" + (at + 2));
            is(0, start + " select 1 from T1 where exists ( select 1 from T0 ) )", "4@" + (at + 7));
            is(0, start + " select 1 from T1 where 1 = ( select 1 , 2 from T0 ) )", "4@" + (at + 8));
            is(0, start + " select 1 from V2 )", "2@" + (at + 3));
            is(0, start + " select 1 from T1 , T3 )", "2@" + (at + 5));
        }
        is(0, "select 1 from V0 , T0", NO);
        is(0, "select 1 from V0 , V0 where 1 = ( select 1 from T0 )", NO);
        is(0, "select ( select 1 from T0 ) from T0 where exists ( select 1 from T0 )", NO);
        is(1, "select ( select 1 from T0 ) from V0", NO);
        is(1, "select ( select 1 from V0 ) from T0", "4@5");
        d.base.grant(0, 4, 0, 3, 1, false);
        of(1, 0, "select ( select 1 from V0 ) from T1", "3@5");
        d.base.grant(0, 0, 1, -1, 1, false);
        of(1, 0, "select ( select 1 from T1 , T0 ) from T1", "3@7");
    }

    /** "p but in a FUNCTION; a query in a FUNCTION or POLICY; a second F in a FUNCTION". */
    private static void functions() {
        prepare();
        is(2, "p + p", NO);
        is(0, "select p from T0", "4@1");
        is(1, "select p from T0", "4@1");
        is(0, "select 1 from T0 where p = 1", "4@5");
        is(0, "insert T0 c0 = p", "4@4");
        is(0, "update T0 set c0 = p", "4@5");
        is(0, "delete T0 where p = 1", "4@3");
        is(3, "1 = p", "4@2");
        is(2, "( select 1 from T0 )", "4@1");
        is(2, "p + ( select p from T0 )", "4@3");
        is(3, "exists ( select 1 from T0 )", "4@2");
        is(3, "1 = ( select 1 from T0 )", "4@3");
        is(2, "F0 ( p )", NO);
        is(2, "F0 ( p ) + F1 ( p )", "4@5");
        is(2, "F0 ( p ) + F0 ( p )", "4@5");
        is(2, "F1 ( F0 ( p ) )", "4@2");
        is(2, "F0 ( p ) + F2 ( p )", "2@5");
        is(2, "F2 ( p ) + F0 ( p )", "2@0");
        is(3, "F0 ( F1 ( c0 ) ) = F0 ( c0 )", NO);
        is(0, "select F0 ( F1 ( c0 ) ) , F0 ( 1 ) from T0", NO);
        is(0, "insert T0 c0 = F0 ( F1 ( 1 ) )", NO);
    }

    /** "If there is no SYNTAX, the ERROR with the smallest PLACE counts (of several ... the smallest number)". */
    private static void several() {
        prepare();
        is(0, "select p , c3 from", "1@5");
        is(0, "select p , c3 from T3 T3", "1@6");
        is(0, "select p , c3 from T3", "4@1");
        is(0, "select c3 , p from T3", "2@1");
        is(0, "select 1 , p from T3", "4@3");
        is(0, "select 1 from T3 where p = 1", "2@3");
        of(1, 0, "select p from T0", "4@1");
        of(1, 0, "delete T1 where p = c0", "3@1");
        of(1, 0, "update T1 set c1 = p , c0 = 1", "3@3");
        of(1, 0, "update T1 set c0 = p , c1 = 1", "2@3");
        is(0, "insert T1 c0 = c0 , c0 = p", "2@4");
        is(0, "insert T1 c0 = p , c0 = c0", "4@4");
        is(0, "insert T1 c0 = 1 , c0 = c0", "4@6");
        // At one PLACE: NAME ahead of MISUSED, RIGHT ahead of MISUSED.
        is(0, "select c3 , count ( * ) from T1", "2@1");
        is(0, "select 1 from T1 where exists ( select 1 from T0 group outer c3 )", "2@12");
        is(0, "select 1 from T0 where exists ( select 1 from T3 , T3 )", "2@10");
        is(2, "F0 ( F3 ( p ) )", "2@2");
        d.base.grant(0, 0, 1, -1, 1, false);
        of(1, 0, "select 1 from T1 where exists ( select 1 from T1 , T0 )", "3@12");
        of(1, 0, "select 1 from T1 where exists ( select 1 from T1 , T2 )", "2@12");
        of(1, 0, "select 1 from T1 where exists ( select 1 from T1 , T1 )", "4@12");
    }

    public static void main(String[] args) {
        sources();
        outer();
        tablesOfChanges();
        tableOfPolicy();
        noSources();
        seenColumns();
        columnsOfViews();
        broken();
        unknown();
        numbers();
        setNames();
        unseenSources();
        unseenElsewhere();
        rights();
        twice();
        aggregates();
        grouped();
        outerBehindGroup();
        factors();
        within();
        functions();
        several();
        Desk.end("FaultsTest");
    }
}
