/** Promises 15 to 24 and 34 to 38: members, objects, policies, and what is told of them. */
public final class ObjectsTest {

    private static void join() {
        Desk d = new Desk();
        Desk.is("who does not lead", d.base.join(0, 1, 2, false), -9);
        Desk.is("who is it", d.base.join(0, 1, 0, false), 1);
        Desk.is("circle", d.base.circle(0, 1), 3);
        Desk.is("of itself", d.base.join(0, 0, 0, true), -9);
        Desk.is("a ring of two", d.base.join(1, 0, 1, false), -9);
        Desk.is("a member without ADMIN does not lead", d.base.join(1, 3, 0, false), -9);
        Desk.is("with ADMIN then", d.base.join(0, 1, 0, true), 1);
        Desk.is("members", d.base.members(2), "1>0!");
        Desk.is("who leads as a member", d.base.join(1, 3, 0, true), 2);
        Desk.is("without ADMIN again", d.base.join(0, 1, 0, false), 2);
        Desk.is("members", d.base.members(2), "1>0 3>0!");
        Desk.is("who has one in its circle that leads", d.base.act(2, 3), 2);
        Desk.is("by itself", d.base.join(2, 4, 3, false), 3);
        d.base.act(2, 4);
        Desk.is("by 3, which is in its circle", d.base.join(2, 5, 0, false), 4);
        Desk.is("circle of 4", d.base.circle(0, 4), 16 + 8 + 1);
        Desk.is("a ring of three", d.base.join(0, 0, 4, false), -9);
        d.base.act(2, 0);
        d.base.act(0, 4);
        Desk.is("a ring of three by who leads", d.base.join(0, 0, 4, false), -9);
        Desk.is("a second way is no ring", d.base.join(2, 4, 0, false), 5);
        Desk.is("members", d.base.members(0), "1>0 3>0! 4>0 4>3 5>0");
        Desk.is("house", d.base.house(6), 5);
    }

    private static void leave() {
        Desk d = new Desk();
        d.base.join(0, 1, 0, false);
        d.base.join(1, 2, 1, false);
        Desk.is("no direct member", d.base.leave(0, 2, 0), -9);
        Desk.is("neither member nor leader", d.base.leave(2, 1, 0), -9);
        d.base.make(0, 0, 1);
        d.base.make(2, 1, 1);
        d.base.act(2, 3);
        d.base.join(1, 2, 1, true);
        // 1 and 2 own T0 by their circles; what they give hangs on that.
        d.base.act(2, 2);
        d.base.grant(1, 0, 0, -1, 5, true);
        d.base.grant(2, 0, 1, -1, 6, false);
        d.base.act(2, 5);
        d.base.grant(2, 0, 0, 0, 7, false);
        Desk.is("grants", d.base.grants(0, 0), "0.*:1>5! 0.0:5>7 1.*:2>6");
        Desk.is("the member leaves, three grants go", d.base.leave(1, 1, 0), 3);
        Desk.is("none are left", d.base.grants(0, 0), "");
        Desk.is("circles", d.base.circle(0, 2), 6);
        d.base.act(2, 1);
        Desk.is("who leads the other one", d.base.leave(2, 2, 1), 0);
        Desk.is("not again", d.base.leave(2, 2, 1), -9);
        Desk.is("members", d.base.members(0), "");
    }

    private static void make() {
        Desk d = new Desk();
        Desk.is("make", d.base.make(1, 2, 4), 1);
        Desk.is("again", d.base.make(1, 2, 4), -9);
        Desk.is("owner", d.base.ofObject(0, 2, 0), 1);
        Desk.is("grants", d.base.ofObject(0, 2, 1), 0);
        Desk.is("columns", d.base.ofObject(0, 2, 2), 4);
        Desk.is("rows", d.base.ofObject(0, 2, 3), 0);
        Desk.is("next", d.base.ofObject(0, 2, 4), 0);
        Desk.is("security", d.base.ofObject(0, 2, 5), 0);
        Desk.is("policies", d.base.ofObject(0, 2, 6), 0);
        Desk.is("no way of a table", d.base.ofObject(0, 2, 7), -1);
        Desk.is("second", d.base.make(0, 0, 1), 2);
        for (int what = 0; what <= 7; what++) {
            Desk.is("not there", d.base.ofObject(0, 1, what), -1);
        }
        Desk.is("text without rows", d.base.text(0, 2), "");
        d.run(1, "insert T2 c0 = 1 , c3 = - 5");
        d.run(1, "insert T2 c1 = 99 * 99");
        d.run(1, "insert T2 c2 = 0");
        Desk.is("text", d.base.text(0, 2), "0:1,-,-,-5;1:-,-,-,-;2:-,-,0,-");
        d.run(1, "delete T2 where c2 is null and c0 is null");
        Desk.is("numbers stay", d.base.text(0, 2), "0:1,-,-,-5;2:-,-,0,-");
        d.run(1, "insert T2 c0 = 7");
        Desk.is("and go on", d.base.text(0, 2), "0:1,-,-,-5;2:-,-,0,-;3:7,-,-,-");
        Desk.is("next", d.base.ofObject(0, 2, 4), 4);
        Desk.is("rows", d.base.ofObject(0, 2, 3), 3);
    }

    private static void views() {
        Desk d = new Desk();
        d.base.make(0, 0, 3);
        d.base.make(0, 1, 3);
        Desk.is("an error", d.view(0, 0, "select * from", true), -11);
        Desk.is("a name", d.view(0, 0, "select c3 from T0", true), -12);
        Desk.is("a view not below", d.view(0, 0, "select * from V0", true), -12);
        d.base.grant(0, 0, 2, -1, 1, false);
        Desk.is("a right", d.view(1, 0, "select count ( * ) from T0", true), -13);
        Desk.is("misused", d.view(0, 0, "select p from T0", true), -14);
        Desk.is("no query", d.view(0, 0, "delete T0", true), -11);
        Desk.is("none yet", d.base.text(0, 4), "");
        Desk.is("four columns alone", d.view(0, 1, "select * from T0 , T1", true), 4);
        Desk.is("there already, ahead of an error", d.view(1, 1, "select", true), -9);
        Desk.is("its query is not below", d.view(0, 1, "select * from T0", true), -9);
        Desk.is("one expr", d.view(0, 2, "select c0 + 1 from V1", false), 1);
        Desk.is("text", d.base.text(1, 6), "select c0 + 1 from V1");
        Desk.is("owner", d.base.ofObject(1, 6, 0), 0);
        Desk.is("asker's rights", d.base.ofObject(1, 6, 7), 0);
        Desk.is("owner's rights", d.base.ofObject(1, 5, 7), 1);
        for (int what = 2; what <= 6; what++) {
            Desk.is("does not fit a view", d.base.ofObject(1, 6, what), -1);
        }
        Desk.is("sees", d.base.sees(0, 0, 5), 15);
        d.type(3, "select c0 from T1");
        Desk.is("the view stays as it was typed", d.base.text(1, 6), "select c0 + 1 from V1");
        Desk.is("objects", d.base.house(4), 4);
    }

    private static void functions() {
        Desk d = new Desk();
        Desk.is("syntax", d.function(0, 1, "p p", true), -11);
        Desk.is("a ref", d.function(0, 1, "c0", true), -12);
        Desk.is("itself", d.function(0, 1, "F1 ( p )", true), -12);
        Desk.is("misused", d.function(0, 1, "count ( p )", true), -14);
        Desk.is("tokens", d.function(0, 1, "p + me * 2", true), 5);
        Desk.is("there already, ahead of an error", d.function(0, 1, "p p", true), -9);
        Desk.is("one that calls it", d.function(0, 2, "F1 ( p )", false), 4);
        Desk.is("not known to another one", d.function(1, 3, "F1 ( p )", false), -12);
        Desk.is("text", d.base.text(2, 9), "p + me * 2");
        Desk.is("owner's rights", d.base.ofObject(1, 9, 7), 1);
        Desk.is("asker's rights", d.base.ofObject(1, 10, 7), 0);
        Desk.is("does not fit", d.base.ofObject(1, 10, 2), -1);
        Desk.is("grants of it", d.base.ofObject(1, 10, 1), 0);
    }

    private static void drop() {
        Desk d = new Desk();
        Desk.is("not there", d.base.drop(0, 0), -9);
        d.base.make(0, 0, 2);
        d.base.make(0, 1, 1);
        d.run(0, "insert T0 c0 = 1 , c1 = 2");
        d.base.secure(0, 0, 1);
        d.policy(0, 0, 2, "c1 = 1", 0, 1);
        d.view(0, 0, "select * from T0", true);
        d.base.grant(0, 0, 0, -1, 1, true);
        d.base.grant(1, 0, 0, 1, 2, false);
        d.base.grant(0, 1, 0, -1, 2, false);
        Desk.is("not of another one", d.base.drop(1, 0), -9);
        Desk.is("its grants", d.base.drop(0, 0), 2);
        Desk.is("other grants stay", d.base.house(5), 1);
        Desk.is("policies go", d.base.policyText(0, 0, 2), "");
        Desk.is("of all", d.base.house(8), 0);
        Desk.is("text goes", d.base.text(0, 0), "");
        Desk.is("the view stays as it is typed", d.base.text(0, 4), "select * from T0");
        Desk.is("but is broken", d.told(0, "select * from V0"), "");
        Desk.is("seen", d.base.sees(0, 0, 4), 0);
        Desk.is("not again", d.base.drop(0, 0), -9);
        Desk.is("made again", d.base.make(0, 0, 1), 3);
        Desk.is("it starts anew", d.base.ofObject(0, 0, 4) + d.base.ofObject(0, 0, 5) + d.base.ofObject(0, 0, 6), 0);
        Desk.is("without rows", d.base.text(0, 0), "");
        Desk.is("seen again", d.base.sees(0, 0, 4), 1);
        d.base.join(0, 1, 0, false);
        Desk.is("who owns it by its circle", d.base.drop(1, 0), 0);
    }

    private static void own() {
        Desk d = new Desk();
        Desk.is("not there", d.base.own(0, 0, 1), -9);
        d.base.make(0, 0, 2);
        d.base.grant(0, 0, 0, -1, 1, true);
        d.base.grant(0, 0, 0, 0, 2, false);
        d.base.grant(1, 0, 0, 1, 3, false);
        Desk.is("not of another one", d.base.own(1, 0, 1), -9);
        Desk.is("the old owner's go; the new one's stay", d.base.own(0, 0, 1), 2);
        Desk.is("grants", d.base.grants(0, 0), "0.1:1>3");
        Desk.is("owner", d.base.ofObject(0, 0, 0), 1);
        Desk.is("the old one can not", d.base.own(0, 0, 0), -9);
        d.base.join(1, 2, 1, false);
        Desk.is("to a member", d.base.own(1, 0, 2), 1);
        Desk.is("who owns not now", d.base.has(0, 1, 0, 0, 0, false), false);
        Desk.is("back, by who owns it", d.base.own(2, 0, 1), 0);
        Desk.is("a member owns it, too", d.base.own(2, 0, 1), 0);
        d.function(0, 0, "p", true);
        Desk.is("a function", d.base.own(0, 8, 7), 0);
        Desk.is("its owner", d.base.ofObject(0, 8, 0), 7);
    }

    private static void secure() {
        Desk d = new Desk();
        Desk.is("not there", d.base.secure(0, 0, 1), -9);
        d.base.make(0, 0, 2);
        Desk.is("off at first", d.base.secure(0, 0, 1), 0);
        Desk.is("on", d.base.secure(0, 0, 2), 1);
        Desk.is("not of another one", d.base.secure(1, 0, 0), -9);
        Desk.is("forced", d.base.secure(0, 0, 0), 2);
        Desk.is("off", d.base.ofObject(0, 0, 5), 0);
    }

    private static void policies() {
        Desk d = new Desk();
        Desk.is("no table", d.policy(0, 0, 0, "1 = 1", 0, 0), -9);
        d.base.make(0, 0, 2);
        d.base.make(0, 1, 1);
        Desk.is("not of another one, ahead of an error", d.policy(1, 0, 0, "1", 0, 0), -9);
        Desk.is("syntax", d.policy(0, 0, 0, "1", 0, 0), -11);
        Desk.is("name", d.policy(0, 1, 0, "c1 = 1", 0, 0), -12);
        Desk.is("misused", d.policy(0, 0, 0, "p = 1", 0, 0), -14);
        Desk.is("first", d.policy(0, 0, 3, "c1 = 1", 3, 7), 1);
        Desk.is("second", d.policy(0, 0, 0, "me = 1", 0, 0), 2);
        Desk.is("in the place of one", d.policy(0, 0, 3, "c0 = 1", 2, 6), 2);
        Desk.is("text", d.base.policyText(1, 0, 3), "2,6:c0 = 1");
        Desk.is("text of none", d.base.policyText(1, 0, 1), "");
        Desk.is("set", d.base.ofObject(0, 0, 6), 9);
        Desk.is("of all", d.base.house(8), 2);
        Desk.is("no such", d.base.unpolicy(0, 0, 1), -9);
        Desk.is("not of another one", d.base.unpolicy(1, 0, 3), -9);
        Desk.is("no such table", d.base.unpolicy(0, 2, 0), -9);
        Desk.is("goes", d.base.unpolicy(0, 0, 3), 1);
        Desk.is("goes once", d.base.unpolicy(0, 0, 3), -9);
        Desk.is("the last one", d.base.unpolicy(0, 0, 0), 0);
        Desk.is("set of none", d.base.ofObject(0, 0, 6), 0);
    }

    private static void columnsOfPolicies() {
        Desk d = new Desk();
        d.base.make(0, 0, 2);
        d.base.join(0, 1, 0, true);
        d.base.make(0, 1, 3);
        // Session 1 owns T0 by its circle; all columns are there, whoever sees them.
        Desk.is("by who owns it so", d.policy(1, 0, 0, "c1 = 1", 0, 1), 1);
        d.function(2, 0, "p", true);
        Desk.is("a function that is not known", d.policy(0, 0, 1, "F0 ( c0 ) = 1", 0, 1), -12);
        d.base.grant(2, 8, 4, -1, 0, false);
        Desk.is("known then", d.policy(0, 0, 1, "F0 ( c0 ) = 1", 0, 1), 2);
    }

    public static void main(String[] args) {
        join();
        leave();
        make();
        views();
        functions();
        drop();
        own();
        secure();
        policies();
        columnsOfPolicies();
        Desk.end("ObjectsTest");
    }
}
