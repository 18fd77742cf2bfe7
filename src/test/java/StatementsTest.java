/** Promises 27 to 33: statements, and what they tell. */
public final class StatementsTest {

    private static Desk rows() {
        Desk d = new Desk();
        d.base.make(0, 0, 2);
        d.run(0, "insert T0 c0 = 3 , c1 = 1");
        d.run(0, "insert T0 c0 = 1 , c1 = 2");
        d.run(0, "insert T0 c1 = 2");
        d.run(0, "insert T0 c0 = 1 , c1 = 2");
        return d;
    }

    private static String results(Desk d, int session) {
        StringBuilder all = new StringBuilder();
        for (int what = 0; what <= 4; what++) {
            all.append(what == 0 ? "" : " ").append(d.base.result(session, what));
        }
        return all.toString();
    }

    private static void results() {
        Desk d = rows();
        Desk.is("an insert", results(d, 0), "2 0 0 1 0");
        Desk.is("others have none", results(d, 1), "0 0 0 0 0");
        Desk.is("a query", d.run(0, "select * from T0"), 4);
        Desk.is("its result", results(d, 0), "1 4 2 0 0");
        Desk.is("its rows in order", d.base.answer(0), "-,2;1,2;1,2;3,1");
        Desk.is("a value", d.base.value(0, 3, 0), 3);
        Desk.is("NULL", d.base.value(0, 0, 0), -9999);
        Desk.isRaised("no such row", "IndexOutOfBoundsException", () -> d.base.value(0, 4, 0));
        Desk.isRaised("no such column", "IndexOutOfBoundsException", () -> d.base.value(0, 0, 2));
        Desk.isRaised("row below 0", "IndexOutOfBoundsException", () -> d.base.value(0, -1, 0));
        Desk.isRaised("column below 0", "IndexOutOfBoundsException", () -> d.base.value(0, 0, -1));
        d.base.act(0, 5);
        d.base.begin(0);
        Desk.is("whatever came since", results(d, 0), "1 4 2 0 0");
        d.base.rollBack(0);
        d.base.act(0, 0);
        Desk.is("no rows", d.run(0, "select c0 , c1 , c0 from T0 where c0 = 7"), 0);
        Desk.is("columns all the same", results(d, 0), "1 0 3 0 0");
        Desk.is("no answer", d.base.answer(0), "");
        Desk.isRaised("no value", "IndexOutOfBoundsException", () -> d.base.value(0, 0, 0));
        Desk.is("an update", d.run(0, "update T0 set c1 = 7 where c0 = 1"), 2);
        Desk.is("its result", results(d, 0), "2 0 0 2 0");
        Desk.is("no answer of it", d.base.answer(0), "");
        Desk.is("an error", d.run(0, "select * from T1"), -12);
        Desk.is("its result", results(d, 0), "3 0 0 0 2");
        Desk.is("no syntax", d.run(0, "select"), -11);
        Desk.is("a right", d.run(0, "delete T0 where c0 = 1"), 2);
        Desk.is("its result", results(d, 0), "2 0 0 2 0");
        Desk.is("left", d.base.text(0, 0), "0:3,1;2:-,2");
    }

    private static void inserts() {
        Desk d = new Desk();
        d.base.make(0, 0, 3);
        Desk.is("one", d.run(0, "insert T0 c2 = me + asker , c0 = 2 * 3 - 4"), 1);
        Desk.is("others are NULL", d.base.text(0, 0), "0:2,-,0");
        Desk.is("by a query", d.run(0, "insert T0 c1 = ( select max ( c0 ) from T0 ) + 1"), 1);
        Desk.is("so", d.base.text(0, 0), "0:2,-,0;1:-,3,-");
        for (int i = 2; i < 8; i++) {
            Desk.is("more", d.run(0, "insert T0 c0 = " + i), 1);
        }
        Desk.is("full", d.run(0, "insert T0 c0 = 9"), -16);
        Desk.is("its result", results(d, 0), "3 0 0 0 6");
        Desk.is("still 8", d.base.ofObject(0, 0, 3), 8);
        Desk.is("the next number stays", d.base.ofObject(0, 0, 4), 8);
        int version = d.base.house(0);
        d.base.secure(0, 0, 2);
        Desk.is("barred goes ahead of full", d.run(0, "insert T0 c0 = 9"), -15);
        Desk.is("its result", results(d, 0), "3 0 0 0 5");
        Desk.is("version", d.base.house(0), version + 1);
        Desk.is("asked ahead, neither is told", d.fault(0, "insert T0 c0 = 9"), "0@-1");
        d.base.secure(0, 0, 0);
        d.run(0, "delete T0 where c0 = 5");
        Desk.is("one more", d.run(0, "insert T0 c1 = 1"), 1);
        Desk.is("its number", d.base.text(0, 0).endsWith(";8:-,1,-"), true);
        d.base.grant(0, 0, 1, 1, 1, false);
        d.run(0, "delete T0");
        Desk.is("the right for a column alone", d.run(1, "insert T0 c1 = 4"), 1);
        Desk.is("so", d.base.text(0, 0), "9:-,4,-");
    }

    private static void updates() {
        Desk d = rows();
        Desk.is("as they were ahead", d.run(0, "update T0 set c0 = c1 , c1 = c0"), 4);
        Desk.is("so", d.base.text(0, 0), "0:1,3;1:2,1;2:2,-;3:2,1");
        Desk.is("all rows as they were", d.run(0, "update T0 set c0 = ( select sum ( c0 ) from T0 )"), 4);
        Desk.is("so", d.base.text(0, 0), "0:7,3;1:7,1;2:7,-;3:7,1");
        Desk.is("by the row", d.run(0, "update T0 set c1 = ( select count ( * ) from T0 where c1 = outer c1 )"), 4);
        Desk.is("so", d.base.text(0, 0), "0:7,1;1:7,2;2:7,0;3:7,2");
        Desk.is("where unknown", d.run(0, "update T0 set c1 = 5 where null = 1"), 0);
        Desk.is("beyond", d.run(0, "update T0 set c1 = 99 * 99 where c1 < 2"), 2);
        Desk.is("so", d.base.text(0, 0), "0:7,-;1:7,2;2:7,-;3:7,2");
    }

    private static void writes() {
        Desk d = rows();
        d.base.grant(0, 0, 0, -1, 1, false);
        d.base.grant(0, 0, 2, -1, 1, false);
        d.base.grant(0, 0, 3, -1, 1, false);
        d.base.grant(0, 0, 1, -1, 1, false);
        d.policy(0, 0, 0, "c0 is not null", 0, 1);
        d.policy(0, 0, 1, "c1 <= 5", 1, 1);
        d.policy(0, 0, 2, "c0 <> 2", 3, 1);
        d.base.secure(0, 0, 1);
        Desk.is("may read", d.base.rows(0, 1, 0, false), "0 1 3");
        Desk.is("may write, with NULL barred", d.base.rows(0, 1, 0, true), "0 1 3");
        Desk.is("the owner all", d.base.rows(0, 0, 0, false), "0 1 2 3");
        Desk.is("barred as it is then", d.run(1, "update T0 set c0 = 2 where c0 = 3"), -15);
        Desk.is("nothing changed", d.base.text(0, 0), "0:3,1;1:1,2;2:-,2;3:1,2");
        Desk.is("one of them", d.run(1, "update T0 set c0 = c0 + 1"), -15);
        Desk.is("another one", d.run(1, "update T0 set c0 = c0 + 3"), 3);
        Desk.is("so", d.base.text(0, 0), "0:6,1;1:4,2;2:-,2;3:4,2");
        d.policy(0, 0, 3, "c0 = 4", 2, 1);
        Desk.is("seen by both", d.base.rows(0, 1, 0, false), "1 3");
        Desk.is("whether it sees that then is not asked", d.run(1, "update T0 set c0 = 9 where c1 = 2"), 2);
        Desk.is("so", d.base.text(0, 0), "0:6,1;1:9,2;2:-,2;3:9,2");
        Desk.is("sees none", d.run(1, "delete T0"), 0);
        Desk.is("insert", d.run(1, "insert T0 c0 = 4 , c1 = 1"), 1);
        Desk.is("insert barred", d.run(1, "insert T0 c0 = 4 , c1 = 6"), -15);
        Desk.is("delete what it sees and may write", d.run(1, "delete T0"), 1);
        Desk.is("so", d.base.text(0, 0), "0:6,1;1:9,2;2:-,2;3:9,2");
        Desk.is("what the owner deletes", d.run(0, "delete T0 where c0 is null"), 1);
    }

    private static void would() {
        Desk d = rows();
        d.type(0, "select c0 + me , asker from T0 where c0 = 1");
        Desk.is("would", d.base.would(0, 0), "1,0;1,0");
        Desk.is("no result", results(d, 0), "2 0 0 1 0");
        Desk.is("by who sees none", d.base.would(1, 0), "");
        d.base.grant(0, 0, 0, -1, 2, false);
        Desk.is("told", d.base.told(0, 0, 2), "3,2;3,2");
        Desk.is("would", d.base.would(2, 0), "3,2;3,2");
        Desk.is("differ", d.base.areAlike(0, 0, 0, 2), false);
        Desk.is("one with itself", d.base.areAlike(0, 0, 2, 2), true);
        Desk.is("two with the same error", d.base.areAlike(0, 0, 1, 3), true);
        d.type(0, "select c0 from T0");
        Desk.is("the same", d.base.areAlike(0, 0, 0, 2), true);
        d.base.secure(0, 0, 1);
        Desk.is("one sees none", d.base.areAlike(0, 0, 0, 2), false);
        d.type(0, "select c0 from T0 where c0 = 8");
        Desk.is("none by an error, and none", d.base.areAlike(0, 0, 0, 1), false);
        Desk.is("none, and none", d.base.areAlike(0, 0, 0, 2), true);
        d.base.grant(0, 0, 0, 1, 1, false);
        d.type(0, "select c0 from T0");
        d.base.grant(0, 0, 2, 1, 3, false);
        Desk.is("the same error at the same place", d.base.areAlike(0, 0, 1, 3), true);
        d.type(0, "select count ( * ) from T0");
        Desk.is("another error", d.base.areAlike(0, 0, 3, 4), false);
        d.type(0, "select c1 + c0 from T0");
        Desk.is("at another place", d.base.areAlike(0, 0, 1, 3), false);
        d.type(0, "insert T0 c0 = 9");
        Desk.is("no query tells nothing", d.base.would(0, 0), "");
        Desk.is("nor changes anything", d.base.ofObject(0, 0, 3), 4);
        d.base.begin(2);
        d.type(0, "select c0 from T0");
        d.base.begin(0);
        d.run(0, "delete T0 where c0 = 1");
        Desk.is("in the DATABASE of the session", d.base.would(0, 0), "-;3");
        Desk.is("told there", d.base.told(0, 0, 0), "-;3");
        Desk.is("not elsewhere", d.base.told(1, 0, 0), "-;1;1;3");
    }

    public static void main(String[] args) {
        results();
        inserts();
        updates();
        writes();
        would();
        Desk.end("StatementsTest");
    }
}
