/** Section 6: whose rights count in FUNCTIONS and VIEWS, who is "me" and "asker", and what then tells NULL. */
public final class RunnersTest {
    private static final int NULL = -9999;

    /** "its RUNNER is its OWNER, or who calls; me in it is that; p is the argument". */
    private static void functions() {
        Desk d = new Desk();
        d.function(0, 0, "p * 10 * 10 + me * 10 + asker", true);
        d.function(0, 1, "p * 10 * 10 + me * 10 + asker", false);
        for (int f = 8; f <= 9; f++) {
            d.base.grant(0, f, 4, -1, 3, false);
        }
        Desk.is("OWNER's rights", d.base.call(0, 0, 3, 2), 203);
        Desk.is("ASKER's rights", d.base.call(0, 1, 3, 2), 233);
        Desk.is("by its OWNER", d.base.call(2, 0, 0, 2), 200);
        Desk.is("by its OWNER, ASKER's rights", d.base.call(2, 1, 0, 2), 200);
        Desk.is("whoever the SESSION acts as", d.base.call(1, 1, 3, 0), 33);
        d.base.own(0, 8, 5);
        Desk.is("of another OWNER", d.base.call(0, 0, 5, 2), 255);
        Desk.is("the OWNER before knows it no more", d.base.call(0, 0, 0, 2), NULL);
        Desk.is("the GRANTS of that one went", d.base.call(0, 0, 3, 2), NULL);
    }

    /** p: "a VALUE": NULL, and from -999 to 999; what it tells lies there, too. */
    private static void arguments() {
        Desk d = new Desk();
        d.function(0, 0, "p", true);
        d.function(0, 1, "p + 1", true);
        d.function(0, 2, "7", true);
        int[] ps = {-999, -998, -1, 0, 1, 998, 999, NULL};
        int[] more = {-998, -997, 0, 1, 2, 999, NULL, NULL};
        for (int i = 0; i < ps.length; i++) {
            Desk.is("p", d.base.call(0, 0, 0, ps[i]), ps[i]);
            Desk.is("p + 1", d.base.call(0, 1, 0, ps[i]), more[i]);
            Desk.is("7, also of NULL", d.base.call(0, 2, 0, ps[i]), 7);
        }
        for (int bad : new int[] {-1000, 1000, -9998, -10000, Integer.MIN_VALUE, Integer.MAX_VALUE}) {
            d.thrown("no VALUE", "IllegalArgumentException", () -> d.base.call(0, 0, 0, bad));
            d.thrown("no VALUE of what is not there", "IllegalArgumentException", () -> d.base.call(0, 3, 0, bad));
        }
    }

    /** "If it is not KNOWN to who calls, not there, or its expr has an ERROR for its RUNNER now, it tells NULL". */
    private static void nulls() {
        Desk d = new Desk();
        d.base.make(0, 0, 1);
        d.insert(0, 0, "4");
        d.base.grant(0, 0, 0, -1, 1, false);
        Desk.is("not there", d.base.call(0, 0, 0, 1), NULL);
        d.function(0, 0, "p + 1", true);
        d.function(0, 1, "F0 ( p ) + 10", true);
        d.function(0, 2, "F0 ( p ) + 20", false);
        Desk.is("not KNOWN", d.base.call(0, 1, 1, 1), NULL);
        d.base.grant(0, 9, 4, -1, 1, false);
        d.base.grant(0, 10, 4, -1, 1, false);
        Desk.is("by its OWNER, to whom F0 is KNOWN", d.base.call(0, 1, 1, 1), 12);
        Desk.is("an ERROR for who calls", d.base.call(0, 2, 1, 1), NULL);
        Desk.is("none for its OWNER", d.base.call(0, 2, 0, 1), 22);
        Desk.is("such a call is no ERROR of a query", d.told(1, "select F1 ( c0 ) , F2 ( c0 ) from T0"), "15,-");
        Desk.is("one that is not KNOWN is one", d.fault(1, 0, "select F0 ( c0 ) from T0"), "2@1");
        Desk.is("in a VIEW, too", d.view(1, 0, "select F0 ( c0 ) from T0", true), -12);
        d.base.grant(0, 8, 4, -1, 1, false);
        Desk.is("KNOWN now", d.base.call(0, 2, 1, 1), 22);
        d.base.drop(0, 8);
        Desk.is("its ERROR is now", d.base.call(0, 1, 0, 1), NULL);
        Desk.is("of both", d.base.call(0, 2, 0, 1), NULL);
        d.function(0, 0, "p + 2", true);
        Desk.is("and no more", d.base.call(0, 1, 0, 1), 13);
        d.base.begin(0);
        d.base.drop(0, 8);
        Desk.is("in an OWN copy", d.base.call(0, 1, 0, 1), NULL);
        Desk.is("not in the other one", d.base.call(1, 1, 0, 1), 13);
    }

    /** A FUNCTION that calls one is its RUNNER: four of them in a row. */
    private static void chains() {
        Desk d = new Desk();
        d.function(0, 0, "p * 10 + me", false);
        d.function(0, 1, "F0 ( p * 10 + me )", false);
        d.function(0, 2, "F1 ( p * 10 + me )", true);
        d.function(0, 3, "F2 ( p )", false);
        for (int f = 8; f < 12; f++) {
            d.base.grant(0, f, 4, -1, 2, false);
        }
        Desk.is("by who calls", d.base.call(0, 1, 2, 1), 122);
        Desk.is("by the OWNER from there on", d.base.call(0, 3, 2, 0), 0);
        d.base.own(0, 8, 1);
        d.base.own(0, 9, 1);
        d.base.act(0, 1);
        d.base.grant(0, 8, 4, -1, 2, false);
        d.base.grant(0, 9, 4, -1, 2, false);
        Desk.is("F1 is not KNOWN to the OWNER of F2", d.base.call(0, 3, 2, 0), NULL);
        d.base.grant(0, 9, 4, -1, 0, false);
        Desk.is("F0 is not KNOWN to it", d.base.call(0, 3, 2, 0), NULL);
        d.base.grant(0, 8, 4, -1, 0, false);
        Desk.is("all are", d.base.call(0, 3, 2, 0), 0);
        Desk.is("by 2 alone", d.base.call(0, 1, 2, 0), 22);
    }

    /** "RUNNER of its query is its OWNER, or the RUNNER of the query in which it stands". */
    private static void views() {
        Desk d = new Desk();
        d.base.make(0, 0, 1);
        d.insert(0, 0, "0");
        d.view(0, 0, "select me , asker , c0 from T0", false);
        d.view(0, 1, "select me , c0 , c1 , c2 from V0", true);
        d.view(0, 2, "select me , c0 , c1 , c2 from V1", false);
        d.view(0, 3, "select me , c0 , c1 , c2 from V0", false);
        for (int view = 5; view < 8; view++) {
            d.base.grant(0, view, 0, -1, 2, false);
        }
        Desk.is("OWNER's rights, then ASKER's", d.told(2, "select * from V1"), "0,0,2,0");
        Desk.is("ASKER's, OWNER's, ASKER's", d.told(2, "select * from V2"), "2,0,0,2");
        Desk.is("V0 is not KNOWN to who asks", d.told(2, "select * from V3"), "");
        d.base.grant(0, 4, 0, -1, 2, false);
        Desk.is("nor T0", d.told(2, "select * from V3"), "");
        d.base.grant(0, 0, 0, -1, 2, false);
        Desk.is("ASKER's, ASKER's", d.told(2, "select * from V3"), "2,2,2,0");
        Desk.is("by the OWNER", d.told(0, "select * from V2"), "0,0,0,0");
        d.base.own(0, 5, 3);
        Desk.is("V0 is not KNOWN to another OWNER", d.told(2, "select * from V2"), "");
        Desk.is("BROKEN", d.fault(0, 0, "select * from V1"), "2@3");
    }

    /** A VIEW shows what its OWNER SEES: ROWS and COLUMNS; "member A" is of the RUNNER. */
    private static void rowsOfViews() {
        Desk d = new Desk();
        d.base.make(0, 0, 2);
        d.insert(0, 0, "1", "10");
        d.insert(0, 0, "2", "20");
        d.base.grant(0, 0, 0, 1, 1, false);
        d.base.grant(0, 0, 0, -1, 2, false);
        d.policy(0, 0, 0, "c0 = me", 0, 1);
        d.policy(0, 0, 1, "c0 = me", 0, 2);
        d.base.secure(0, 0, 1);
        d.view(1, 0, "select * from T0", true);
        d.base.grant(1, 4, 0, -1, 2, false);
        Desk.is("of its OWNER", d.told(2, "select * from V0"), "10");
        Desk.is("one COLUMN", d.base.sees(0, 2, 4), 1);
        Desk.is("by itself", d.told(2, "select * from T0"), "2,20");
        d.base.drop(1, 4);
        d.view(1, 0, "select * from T0", false);
        d.base.grant(1, 4, 0, -1, 2, false);
        Desk.is("of who asks", d.told(2, "select * from V0"), "2,20");
        Desk.is("both COLUMNS", d.base.sees(0, 2, 4), 3);
        Desk.is("of its OWNER, who asks", d.told(1, "select * from V0"), "10");
        d.base.drop(1, 4);
        d.view(1, 0, "select 1 from T0 where member A1", true);
        d.base.grant(1, 4, 0, -1, 2, false);
        Desk.is("the OWNER is in its own CIRCLE", d.told(2, "select * from V0"), "1");
        d.base.drop(1, 4);
        d.view(1, 0, "select 1 from T0 where member A1", false);
        d.base.grant(1, 4, 0, -1, 2, false);
        Desk.is("not in that of who asks", d.told(2, "select * from V0"), "");
    }

    /** Who may do what, by one actor and another, of one TABLE, in one query: nothing is mixed up. */
    private static void notMixedUp() {
        Desk d = new Desk();
        for (int t = 0; t < 4; t++) {
            d.base.make(0, t, 1);
            for (int i = 0; i < 8; i++) {
                d.insert(0, t, "" + i);
            }
            d.policy(0, t, 0, "c0 = me", 0, 0);
            d.policy(0, t, 1, "c0 = me + " + t, 0, 1);
            d.policy(0, t, 2, "c0 = asker and me = 2", 0, 2);
            d.base.secure(0, t, 2);
            d.base.grant(0, t, 0, -1, 1, false);
            d.base.grant(0, t, 0, -1, 2, false);
        }
        for (int t = 0; t < 4; t++) {
            String own = Integer.toString(1 + t);
            Desk.is("0 of T" + t, d.told(0, "select * from T" + t), "0");
            Desk.is("1 of T" + t, d.told(1, "select * from T" + t), own);
            Desk.is("2 of T" + t, d.told(2, "select * from T" + t), "2");
        }
        d.base.act(1, 2);
        d.view(1, 0, "select a c0 , b c0 from T1 , T2", true);
        d.base.grant(1, 4, 0, -1, 0, false);
        d.base.grant(1, 4, 0, -1, 1, false);
        Desk.is("2 for 0", d.told(0, "select a c0 , a c1 , b c0 from V0 , T1"), "0,0,0");
        Desk.is("2 for 1", d.told(1, "select a c0 , a c1 , b c0 from V0 , T3"), "1,1,4");
        Desk.is("2 for 2", d.told(2, "select a c0 , a c1 , b c0 from V0 , T0"), "2,2,2");
        Desk.is("as it is told to 0", d.base.rows(0, 0, 1, false), "0");
        Desk.is("as it is told to 1", d.base.rows(0, 1, 3, false), "4");
    }

    /** As deep as texts can look into one another: four VIEWS, a query within, a POLICY, four FUNCTIONS. */
    private static void deepest() {
        Desk d = new Desk();
        d.base.make(0, 0, 1);
        d.base.make(0, 1, 1);
        for (int i : new int[] {0, 1, 2, 3, 5}) {
            d.insert(0, 0, "" + i);
            d.insert(0, 1, "" + i);
        }
        d.function(0, 0, "( ( ( ( p + 1 ) + 1 * 1 ) + 1 * 1 ) + 1 * 1 )", true);
        for (int f = 1; f < 4; f++) {
            d.function(0, f, "( ( ( F" + (f - 1) + " ( p + 1 * 1 ) + 1 * 1 ) + 1 * 1 ) + 1 * 1 )", true);
        }
        Desk.is("four FUNCTIONS", d.base.call(0, 3, 0, 1), 17);
        // ROW 1 of T1 can not be read.
        String condition = "[ 0 = 1 or 0 = 0 and not [ 0 = 1 or 0 = 0 and 0 + 1 * F3 ( c0 ) = 17 ] ]";
        Desk.is("a POLICY", d.policy(0, 1, 0, condition, 0, 0), 1);
        d.base.secure(0, 1, 2);
        String view = "select c0 from T0 where [ 0 = 1 or 0 = 0 and [ 0 = 1 or 0 = 0 and not exists ( select 1 from T1 "
                + "where 0 = 1 or 0 = 0 and c0 = outer c0 + 1 ) ] ]";
        Desk.is("a query within", d.view(0, 0, view, true), 1);
        for (int v = 1; v < 4; v++) {
            d.view(0, v, "select ( ( ( ( 0 + 1 * c0 ) ) ) ) from V" + (v - 1), true);
        }
        Desk.is("four VIEWS", d.told(0, "select ( ( ( ( 0 + 1 * c0 ) ) ) ) from V3"), "0;3;5");
        Desk.is("and in a condition", d.told(0, "select c0 from V3 where [ [ [ [ 0 = 1 or 0 = 0 and c0 = 3 ] ] ] ]"), "3");
        Desk.is("the POLICY by itself", d.base.rows(0, 0, 1, false), "0 2 3 4");
        Desk.is("in an insert", d.run(0, "insert T0 c0 = ( ( ( ( select max ( F3 ( c0 ) ) from T1 ) ) ) )"), -11);
        Desk.is("in an insert, four deep", d.run(0, "insert T0 c0 = ( ( ( select max ( F3 ( c0 ) ) from T1 ) ) )"), -11);
        Desk.is("in an insert, so deep as it may", d.run(0, "insert T0 c0 = ( ( select max ( F3 ( c0 ) ) from T1 ) )"), 1);
        Desk.is("so", d.base.text(0, 0).endsWith(";5:21"), true);
    }

    public static void main(String[] args) {
        functions();
        arguments();
        nulls();
        chains();
        views();
        rowsOfViews();
        notMixedUp();
        deepest();
        Desk.end("RunnersTest");
    }
}
