/**
 * Each reason for which a method is REFUSED, by itself: nothing changes then, and it is counted;
 * exceptions go ahead of it, and are not counted. In the DATABASE that all share and in an OWN copy.
 */
public final class RefusedTest {
    private static final String INDEX = "IndexOutOfBoundsException";
    private static final String ARGUMENT = "IllegalArgumentException";

    /** ACTOR 0 owns T0 with rows, grants and policies, V0 and F0; 1 owns T1; 3 is a MEMBER of 0. */
    private static Desk prepare(boolean isOwn) {
        Desk d = new Desk();
        d.base.make(0, 0, 2);
        d.base.make(1, 1, 1);
        d.insert(0, 0, "1", "2");
        d.insert(0, 0, "3", "4");
        d.view(0, 0, "select * from T0", true);
        d.function(0, 0, "p + 1", true);
        d.policy(0, 0, 1, "c0 = me", 0, 1);
        d.base.join(0, 3, 0, false);
        d.base.grant(0, 0, 0, -1, 1, true);
        d.base.grant(1, 0, 0, 1, 2, false);
        d.base.grant(0, 0, 1, 0, 1, false);
        for (int sheet = 0; sheet < 4; sheet++) {
            d.type(sheet, sheet == 0 ? "select c0 from T0" : sheet == 1 ? "p" : sheet == 2 ? "c0 = 1" : "select");
        }
        for (int session = 0; isOwn && session < 3; session++) {
            d.base.begin(session);
        }
        return d;
    }

    private static void sessions() {
        Desk d = prepare(true);
        d.refused("act in a transaction", () -> d.base.act(0, 5));
        d.refused("act as the same one in a transaction", () -> d.base.act(0, 0));
        d.thrown("act in a transaction as no ACTOR", ARGUMENT, () -> d.base.act(0, 8));
        d.refused("begin in a transaction", () -> d.base.begin(0));
        d.thrown("begin of no SESSION", INDEX, () -> d.base.begin(3));
        d.refused("back without a SAVEPOINT", () -> d.base.backTo(0, 0));
        d.base.savepoint(0);
        d.refused("back to a number below 0", () -> d.base.backTo(0, -1));
        d.refused("back to the first that is not there", () -> d.base.backTo(0, 1));
        d.refused("back far beyond", () -> d.base.backTo(0, Integer.MAX_VALUE));
        d.refused("back far below", () -> d.base.backTo(0, Integer.MIN_VALUE));
        d.base.savepoint(0);
        d.base.savepoint(0);
        d.refused("a fourth SAVEPOINT", () -> d.base.savepoint(0));
        d.base.backTo(0, 1);
        d.refused("back to one that went", () -> d.base.backTo(0, 2));
        Desk e = prepare(false);
        e.refused("commit without a transaction", () -> e.base.commit(0));
        e.refused("roll back without a transaction", () -> e.base.rollBack(0));
        e.refused("savepoint without a transaction", () -> e.base.savepoint(0));
        e.refused("back without a transaction", () -> e.base.backTo(0, 0));
        e.base.begin(0);
        e.base.savepoint(0);
        e.base.rollBack(0);
        e.refused("back to what was rolled back", () -> e.base.backTo(0, 0));
        e.base.begin(0);
        e.base.savepoint(0);
        e.base.commit(0);
        e.refused("back to what was committed", () -> e.base.backTo(0, 0));
        e.refused("one more behind that", () -> e.base.savepoint(0));
        e.thrown("commit of no SESSION", INDEX, () -> e.base.commit(-1));
        e.thrown("roll back of no SESSION", INDEX, () -> e.base.rollBack(3));
        e.thrown("savepoint of no SESSION", INDEX, () -> e.base.savepoint(3));
        e.thrown("back of no SESSION", INDEX, () -> e.base.backTo(-1, 0));
    }

    private static void members(boolean isOwn) {
        Desk d = prepare(isOwn);
        d.refused("join by who does not LEAD", () -> d.base.join(1, 4, 0, true));
        d.refused("join of a ring", () -> d.base.join(0, 0, 3, false));
        d.refused("join of one to itself", () -> d.base.join(0, 0, 0, true));
        d.thrown("join that would be refused, of no ACTOR", ARGUMENT, () -> d.base.join(1, 8, 0, true));
        d.thrown("join that would be refused, to no ACTOR", ARGUMENT, () -> d.base.join(1, 4, -1, true));
        d.refused("leave of none", () -> d.base.leave(0, 4, 0));
        d.refused("leave the other way round", () -> d.base.leave(0, 0, 3));
        d.refused("leave by neither of both", () -> d.base.leave(1, 3, 0));
        d.thrown("leave that would be refused", ARGUMENT, () -> d.base.leave(1, 3, 8));
        Desk e = prepare(false);
        e.base.act(2, 3);
        e.refused("join by a MEMBER without ADMIN", () -> e.base.join(2, 4, 0, false));
        e.base.act(2, 0);
        e.base.act(0, 3);
        e.refused("join of a ring by who LEADS", () -> e.base.join(0, 0, 3, true));
    }

    private static void objects(boolean isOwn) {
        Desk d = prepare(isOwn);
        d.refused("make what is there", () -> d.base.make(0, 0, 2));
        d.refused("make what another one has", () -> d.base.make(0, 1, 3));
        d.thrown("make what is there, of no COLUMNS", ARGUMENT, () -> d.base.make(0, 0, 0));
        d.refused("a VIEW that is there", () -> d.base.view(0, 0, 0, true));
        d.refused("a VIEW that is there, ahead of an ERROR", () -> d.base.view(1, 0, 3, false));
        d.thrown("a VIEW that is there, of no SHEET", INDEX, () -> d.base.view(0, 0, 4, true));
        d.refused("a FUNCTION that is there", () -> d.base.function(0, 0, 1, true));
        d.refused("a FUNCTION that is there, ahead of an ERROR", () -> d.base.function(1, 0, 3, false));
        d.thrown("a FUNCTION that is there, of no SHEET", INDEX, () -> d.base.function(0, 0, -1, true));
        for (int object = 0; object < 12; object++) {
            int one = object;
            boolean isThere = object == 0 || object == 4 || object == 8;
            int session = isThere ? 1 : 0;
            String how = isThere ? " that is another one's" : object == 1 ? " of 1" : " that is not there";
            d.refused("drop " + object + how, () -> d.base.drop(session, one));
            d.refused("own " + object + how, () -> d.base.own(session, one, session));
        }
        d.thrown("own that would be refused", ARGUMENT, () -> d.base.own(1, 0, 8));
        d.thrown("drop of no OBJECT", INDEX, () -> d.base.drop(1, 12));
    }

    private static void tables(boolean isOwn) {
        Desk d = prepare(isOwn);
        d.refused("secure a TABLE that is not there", () -> d.base.secure(0, 2, 1));
        d.refused("secure a TABLE that is another one's", () -> d.base.secure(1, 0, 1));
        d.thrown("secure that would be refused", ARGUMENT, () -> d.base.secure(1, 0, 3));
        d.refused("a POLICY without the TABLE", () -> d.base.policy(0, 2, 0, 2, 0, 1));
        d.refused("a POLICY for another one's TABLE", () -> d.base.policy(1, 0, 0, 2, 0, 1));
        d.refused("a POLICY without the TABLE, ahead of an ERROR", () -> d.base.policy(0, 2, 0, 3, 0, 1));
        d.refused("a POLICY for another one's TABLE, ahead of an ERROR", () -> d.base.policy(1, 0, 0, 3, 0, 1));
        d.thrown("a POLICY that would be refused, of no KIND", ARGUMENT, () -> d.base.policy(1, 0, 0, 2, 4, 1));
        d.thrown("a POLICY that would be refused, of no ACTOR", ARGUMENT, () -> d.base.policy(1, 0, 0, 2, 0, 8));
        d.refused("no POLICY to go", () -> d.base.unpolicy(0, 0, 0));
        d.refused("no TABLE of a POLICY to go", () -> d.base.unpolicy(0, 2, 1));
        d.refused("a POLICY of another one's TABLE to go", () -> d.base.unpolicy(1, 0, 1));
        d.thrown("unpolicy that would be refused", INDEX, () -> d.base.unpolicy(1, 0, 4));
    }

    private static void grants(boolean isOwn) {
        Desk d = prepare(isOwn);
        d.refused("grant without the OBJECT", () -> d.base.grant(0, 2, 0, -1, 1, false));
        d.refused("grant of a RIGHT that does not FIT a TABLE", () -> d.base.grant(0, 0, 4, -1, 1, false));
        d.refused("grant of a RIGHT that does not FIT a VIEW", () -> d.base.grant(0, 4, 1, -1, 1, false));
        d.refused("grant of a RIGHT that does not FIT a FUNCTION", () -> d.base.grant(0, 8, 0, -1, 1, false));
        d.refused("grant of a COLUMN that does not FIT DELETE", () -> d.base.grant(0, 0, 3, 0, 1, false));
        d.refused("grant of a COLUMN that does not FIT EXECUTE", () -> d.base.grant(0, 8, 4, 0, 1, false));
        d.refused("grant by who has it not", () -> d.base.grant(2, 0, 2, -1, 3, false));
        d.refused("grant by who has it without OPTION", () -> d.base.grant(1, 0, 1, 0, 3, false));
        d.refused("grant for NONE by who has a COLUMN alone", () -> d.base.grant(2, 0, 0, -1, 3, false));
        d.refused("grant to itself", () -> d.base.grant(0, 0, 0, -1, 0, true));
        d.refused("grant to itself, with OPTION", () -> d.base.grant(1, 0, 0, 1, 1, false));
        d.thrown("grant that would be refused, of no RIGHT", ARGUMENT, () -> d.base.grant(0, 2, 5, -1, 1, false));
        d.thrown("grant that would be refused, of no COLUMN", ARGUMENT, () -> d.base.grant(0, 2, 0, 4, 1, false));
        d.thrown("grant that would be refused, to no ACTOR", ARGUMENT, () -> d.base.grant(0, 2, 0, -1, -1, false));
    }

    private static void revokes(boolean isOwn) {
        Desk d = prepare(isOwn);
        for (int way = 0; way <= 2; way++) {
            int by = way;
            d.refused("revoke without the OBJECT, " + way, () -> d.base.revoke(0, 2, 0, -1, 1, by));
            d.refused("revoke of another RIGHT, " + way, () -> d.base.revoke(0, 0, 2, -1, 1, by));
            d.refused("revoke of another COLUMN, " + way, () -> d.base.revoke(0, 0, 0, 1, 1, by));
            d.refused("revoke from another ACTOR, " + way, () -> d.base.revoke(0, 0, 0, -1, 2, by));
            d.refused("revoke of what another one GAVE, " + way, () -> d.base.revoke(0, 0, 0, 1, 2, by));
        }
        d.refused("revoke by 0, if others would go", () -> d.base.revoke(0, 0, 0, -1, 1, 0));
        d.refused("revoke by 2 without OPTION", () -> d.base.revoke(1, 0, 0, 1, 2, 2));
        d.thrown("revoke that would be refused, by no way", ARGUMENT, () -> d.base.revoke(0, 0, 0, -1, 1, 3));
        d.thrown("revoke that would be refused, below", ARGUMENT, () -> d.base.revoke(0, 2, 0, -1, 1, -1));
    }

    /** What is answered below 0, but is not REFUSED, is not counted. */
    private static void notCounted() {
        Desk d = prepare(false);
        Desk.is("an ERROR", d.base.run(0, 3), -11);
        Desk.is("an ERROR of a VIEW", d.base.view(0, 1, 3, true), -11);
        Desk.is("an ERROR of a FUNCTION", d.base.function(0, 1, 3, true), -11);
        Desk.is("an ERROR of a POLICY", d.base.policy(0, 0, 0, 3, 0, 0), -11);
        Desk.is("NONE", d.base.ofObject(0, 2, 0), -1);
        Desk.is("NULL", d.base.call(0, 3, 0, 0), -9999);
        d.base.begin(0);
        d.base.make(1, 2, 1);
        Desk.is("a CONFLICT", d.base.commit(0), -7);
        Desk.is("none is counted", d.base.house(1), 0);
    }

    public static void main(String[] args) {
        sessions();
        for (int i = 0; i < 2; i++) {
            members(i == 1);
            objects(i == 1);
            tables(i == 1);
            grants(i == 1);
            revokes(i == 1);
        }
        notCounted();
        Desk.end("RefusedTest");
    }
}
