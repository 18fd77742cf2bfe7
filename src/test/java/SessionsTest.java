/** Promises 1 to 7 and 45: a new object, sessions, transactions. */
public final class SessionsTest {

    private static void fresh() {
        Desk d = new Desk();
        for (int what = 0; what <= 8; what++) {
            Desk.is("house of a new object " + what, d.base.house(what), 0);
        }
        for (int i = 0; i < 3; i++) {
            Desk.is("actor of session", d.base.ofSession(i, 0), i);
            Desk.is("no transaction", d.base.ofSession(i, 1), 0);
            Desk.is("no savepoints", d.base.ofSession(i, 2), 0);
            Desk.is("no version", d.base.ofSession(i, 3), -1);
            Desk.is("no other copy", d.base.ofSession(i, 4), 0);
            Desk.is("no result", d.base.result(i, 0), 0);
            Desk.is("no answer", d.base.answer(i), "");
            Desk.is("no members", d.base.members(i), "");
        }
        for (int object = 0; object < 12; object++) {
            Desk.is("no object", d.base.ofObject(0, object, 0), -1);
        }
        for (int sheet = 0; sheet < 4; sheet++) {
            Desk.is("nothing typed", d.base.typed(sheet), "");
        }
        for (int actor = 0; actor < 8; actor++) {
            Desk.is("circle", d.base.circle(0, actor), 1 << actor);
        }
        Desk.is("sound", d.base.isSound(), true);
    }

    private static void act() {
        Desk d = new Desk();
        Desk.is("act tells the one before", d.base.act(1, 7), 1);
        Desk.is("act again", d.base.act(1, 0), 7);
        Desk.is("others stay", d.base.ofSession(2, 0), 2);
        d.base.begin(1);
        Desk.is("act in a transaction", d.base.act(1, 3), -9);
        Desk.is("its actor stays", d.base.ofSession(1, 0), 0);
        Desk.is("another one may act", d.base.act(2, 3), 2);
        Desk.is("counted", d.base.house(1), 1);
    }

    private static void transactions() {
        Desk d = new Desk();
        d.base.make(0, 0, 2);
        Desk.is("begin", d.base.begin(0), 1);
        Desk.is("begin again", d.base.begin(0), -9);
        Desk.is("in a transaction", d.base.ofSession(0, 1), 1);
        Desk.is("version as it began", d.base.ofSession(0, 3), 1);
        Desk.is("alike", d.base.ofSession(0, 4), 0);
        Desk.is("a row in the copy", d.run(0, "insert T0 c0 = 1"), 1);
        Desk.is("another one", d.base.ofSession(0, 4), 1);
        Desk.is("not in the shared one", d.base.text(1, 0), "");
        Desk.is("in the own one", d.base.text(0, 0), "0:1,-");
        Desk.is("version stays", d.base.house(0), 1);
        Desk.is("rows that all share", d.base.house(7), 0);
        Desk.is("commit", d.base.commit(0), 2);
        Desk.is("no transaction then", d.base.ofSession(0, 1), 0);
        Desk.is("shared then", d.base.text(1, 0), "0:1,-");
        Desk.is("commit without one", d.base.commit(0), -9);
        d.base.begin(0);
        Desk.is("commit of nothing", d.base.commit(0), 2);
        d.base.begin(0);
        d.base.act(1, 0);
        d.base.secure(1, 0, 1);
        Desk.is("a conflict, also of nothing", d.base.commit(0), -7);
        Desk.is("conflicts", d.base.house(2), 1);
        Desk.is("gone", d.base.ofSession(0, 1), 0);
        Desk.is("a conflict is not refused", d.base.house(1), 2);
    }

    private static void sameAgain() {
        Desk d = new Desk();
        d.base.make(0, 0, 1);
        d.base.begin(0);
        d.base.secure(0, 0, 2);
        d.base.secure(0, 0, 0);
        Desk.is("as it was", d.base.ofSession(0, 4), 0);
        d.run(0, "insert T0 c0 = 1");
        d.run(0, "delete T0");
        Desk.is("the next number is of it", d.base.ofSession(0, 4), 1);
        Desk.is("commit of that", d.base.commit(0), 2);
        Desk.is("a call that changes nothing", d.base.secure(0, 0, 0), 0);
        Desk.is("version stays", d.base.house(0), 2);
        d.run(0, "insert T0 c0 = 1");
        Desk.is("version", d.base.house(0), 3);
        Desk.is("an update to the same", d.run(0, "update T0 set c0 = 1"), 1);
        Desk.is("version stays then", d.base.house(0), 3);
        d.type(1, "p");
        d.base.function(0, 0, 1, true);
        d.base.begin(1);
        d.base.drop(0, 8);
        d.base.function(0, 0, 1, true);
        Desk.is("each such call counts", d.base.house(0), 6);
        Desk.is("a conflict though all is as it was", d.base.commit(1), -7);
        d.base.begin(0);
        d.base.drop(0, 8);
        d.base.function(0, 0, 1, true);
        Desk.is("dropped and made again is no other one", d.base.ofSession(0, 4), 0);
        d.base.drop(0, 8);
        d.base.function(0, 0, 1, false);
        Desk.is("with other rights it is", d.base.ofSession(0, 4), 1);
    }

    /** What is made anew just as it was is no other DATABASE; another text of the same length is. */
    private static void madeAnew() {
        Desk d = new Desk();
        d.base.make(0, 0, 2);
        d.function(0, 0, "p + 1", false);
        d.policy(0, 0, 0, "c0 = 1", 0, 1);
        d.base.grant(0, 0, 0, -1, 1, true);
        d.base.begin(0);
        d.base.drop(0, 8);
        d.function(0, 0, "p + 1", false);
        Desk.is("a function", d.base.ofSession(0, 4), 0);
        d.base.drop(0, 8);
        d.function(0, 0, "p + 2", false);
        Desk.is("another one of the same length", d.base.ofSession(0, 4), 1);
        d.base.drop(0, 8);
        d.function(0, 0, "p + 1", false);
        Desk.is("the same again", d.base.ofSession(0, 4), 0);
        d.policy(0, 0, 0, "c0 = 2", 0, 1);
        Desk.is("another policy", d.base.ofSession(0, 4), 1);
        d.policy(0, 0, 0, "c0 = 1", 0, 2);
        Desk.is("for another one", d.base.ofSession(0, 4), 1);
        d.policy(0, 0, 0, "c0 = 1", 1, 1);
        Desk.is("of another kind", d.base.ofSession(0, 4), 1);
        d.policy(0, 0, 0, "c0 = 1", 0, 1);
        Desk.is("the same policy again", d.base.ofSession(0, 4), 0);
        d.run(0, "insert T0 c0 = 1 , c1 = 2");
        d.run(0, "insert T0 c0 = 3");
        d.base.secure(0, 0, 2);
        d.base.drop(0, 0);
        d.base.make(0, 0, 2);
        Desk.is("a table without its policy", d.base.ofSession(0, 4), 1);
        d.policy(0, 0, 0, "c0 = 1", 0, 1);
        Desk.is("and without its grant", d.base.ofSession(0, 4), 1);
        d.base.grant(0, 0, 0, -1, 1, false);
        Desk.is("and with one without option", d.base.ofSession(0, 4), 1);
        d.base.grant(0, 0, 0, -1, 1, true);
        Desk.is("a table, all as it was", d.base.ofSession(0, 4), 0);
        int version = d.base.house(0);
        Desk.is("commit of nothing", d.base.commit(0), version);
        d.policy(0, 0, 0, "c0 = 2", 0, 1);
        Desk.is("a call that changes a text", d.base.house(0), version + 1);
        d.policy(0, 0, 0, "c0 = 2", 0, 1);
        Desk.is("a call that does not", d.base.house(0), version + 1);
    }

    private static void two() {
        Desk d = new Desk();
        d.base.begin(0);
        d.base.begin(1);
        d.base.make(0, 0, 1);
        d.base.make(1, 0, 2);
        Desk.is("each has its own", d.base.ofObject(0, 0, 2) * 10 + d.base.ofObject(1, 0, 2), 12);
        Desk.is("others see none", d.base.ofObject(2, 0, 2), -1);
        Desk.is("the first one commits", d.base.commit(1), 1);
        Desk.is("the second one can not", d.base.commit(0), -7);
        Desk.is("the first one's stands", d.base.ofObject(0, 0, 2), 2);
    }

    private static void rollBack() {
        Desk d = new Desk();
        Desk.is("roll back without one", d.base.rollBack(0), -9);
        d.base.begin(0);
        d.base.make(0, 0, 1);
        d.base.savepoint(0);
        d.base.savepoint(0);
        Desk.is("savepoints it had", d.base.rollBack(0), 2);
        Desk.is("gone", d.base.ofObject(0, 0, 0), -1);
        Desk.is("no savepoints now", d.base.ofSession(0, 2), 0);
        d.base.begin(0);
        Desk.is("none in the next one", d.base.ofSession(0, 2), 0);
        Desk.is("none to roll back", d.base.rollBack(0), 0);
    }

    private static void savepoints() {
        Desk d = new Desk();
        Desk.is("savepoint without a transaction", d.base.savepoint(0), -9);
        Desk.is("back without a transaction", d.base.backTo(0, 0), -9);
        d.base.begin(0);
        Desk.is("back without a savepoint", d.base.backTo(0, 0), -9);
        Desk.is("first", d.base.savepoint(0), 1);
        d.base.make(0, 0, 1);
        Desk.is("second", d.base.savepoint(0), 2);
        d.base.make(0, 1, 1);
        Desk.is("third", d.base.savepoint(0), 3);
        Desk.is("no fourth", d.base.savepoint(0), -9);
        d.base.make(0, 2, 1);
        Desk.is("no such", d.base.backTo(0, 3), -9);
        Desk.is("none below 0", d.base.backTo(0, -1), -9);
        Desk.is("nothing changed", d.base.ofObject(0, 2, 2), 1);
        Desk.is("back to the last", d.base.backTo(0, 2), 3);
        Desk.is("T2 is gone", d.base.ofObject(0, 2, 2), -1);
        Desk.is("T1 is there", d.base.ofObject(0, 1, 2), 1);
        Desk.is("back to the first", d.base.backTo(0, 0), 1);
        Desk.is("T0 is gone", d.base.ofObject(0, 0, 2), -1);
        Desk.is("those behind went", d.base.backTo(0, 1), -9);
        d.base.make(0, 3, 2);
        Desk.is("it stays, as it was", d.base.backTo(0, 0), 1);
        Desk.is("T3 is gone", d.base.ofObject(0, 3, 2), -1);
        Desk.is("how many", d.base.ofSession(0, 2), 1);
        Desk.is("refused so often", d.base.house(1), 7);
        Desk.is("commit of nothing", d.base.commit(0), 0);
    }

    /** A copy tells all that the DATABASE tells, also what no call in it has changed. */
    private static void copies() {
        Desk d = new Desk();
        d.base.make(0, 0, 2);
        d.run(0, "insert T0 c0 = 1 , c1 = 2");
        d.view(0, 0, "select * from T0", false);
        d.function(0, 0, "p + 1", true);
        d.function(0, 1, "F0 ( p )", true);
        d.base.grant(0, 0, 0, 1, 1, true);
        d.base.grant(0, 4, 0, -1, 1, false);
        d.base.grant(0, 4, 0, -1, 2, false);
        d.base.grant(0, 9, 4, -1, 1, false);
        d.base.drop(0, 8);
        d.base.join(0, 3, 0, true);
        d.policy(0, 0, 0, "c0 = 1", 0, 1);
        d.base.secure(0, 0, 1);
        d.type(0, "select * from V0");
        for (int way = 0; way < 3; way++) {
            if (way == 1) {
                d.base.begin(0);
            } else if (way == 2) {
                d.base.savepoint(0);
                d.base.drop(0, 0);
                d.base.backTo(0, 0);
            }
            Desk.is("told", d.base.told(0, 0, 1), "2");
            Desk.is("broken", d.base.told(0, 0, 2), "");
            Desk.is("broken, another error", d.base.areAlike(0, 0, 2, 4), true);
            Desk.is("seen", d.base.sees(0, 1, 4) * 10 + d.base.sees(0, 2, 4), 10);
            Desk.is("of an error", d.base.call(0, 1, 1, 1), -9999);
            Desk.is("known", d.base.isKnown(0, 3, 0), true);
            Desk.is("has", d.base.has(0, 1, 0, 0, 1, true), true);
            Desk.is("members", d.base.members(0), "3>0!");
            Desk.is("circle", d.base.circle(0, 3), 9);
            Desk.is("policy", d.base.policyText(0, 0, 0), "0,1:c0 = 1");
            Desk.is("rows", d.base.rows(0, 1, 0, false) + d.base.rows(0, 2, 0, false), "0");
            Desk.is("sound", d.base.isSound(), true);
        }
    }

    public static void main(String[] args) {
        fresh();
        copies();
        act();
        transactions();
        sameAgain();
        madeAnew();
        two();
        rollBack();
        savepoints();
        Desk.end("SessionsTest");
    }
}
