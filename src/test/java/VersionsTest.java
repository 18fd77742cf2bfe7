import java.util.function.IntSupplier;

/** Section 7: what makes VERSION one more and what does not, CONFLICTS, OWN copies and SAVEPOINTS. */
public final class VersionsTest {

    /** ACTOR 0 owns T0 with rows, a POLICY and GRANTS, V0 and F0; 3 is a MEMBER of 0. */
    private static Desk prepare() {
        Desk d = new Desk();
        d.base.make(0, 0, 2);
        d.insert(0, 0, "1", "2");
        d.insert(0, 0, "3", "4");
        d.view(0, 0, "select * from T0", true);
        d.function(0, 0, "p + 1", true);
        d.policy(0, 0, 1, "c0 = me", 0, 1);
        d.base.join(0, 3, 0, false);
        d.base.grant(0, 0, 0, -1, 1, false);
        return d;
    }

    private static final int START = 8;

    /** A call outside of transactions: VERSION is one more behind it, or stays. */
    private static void counts(Desk d, String what, int more, IntSupplier call) {
        int before = d.base.house(0);
        int answer = call.getAsInt();
        Desk.is(what + ", answered " + answer, d.base.house(0) - before, more);
    }

    /** "one more with each call ..., behind which this DATABASE is another one than ahead of it". */
    private static void changes() {
        Desk d = prepare();
        Desk.is("eight calls", d.base.house(0), START);
        counts(d, "make", 1, () -> d.base.make(0, 1, 1));
        counts(d, "view", 1, () -> d.view(0, 1, "select * from T1", true));
        counts(d, "function", 1, () -> d.function(0, 1, "p", true));
        counts(d, "own", 1, () -> d.base.own(0, 9, 1));
        counts(d, "drop", 1, () -> d.base.drop(0, 5));
        counts(d, "secure", 1, () -> d.base.secure(0, 0, 1));
        counts(d, "policy", 1, () -> d.policy(0, 0, 0, "c0 = me", 0, 1));
        counts(d, "policy of another KIND", 1, () -> d.policy(0, 0, 0, "c0 = me", 1, 1));
        counts(d, "policy for another one", 1, () -> d.policy(0, 0, 0, "c0 = me", 1, 2));
        counts(d, "policy of another CONDITION", 1, () -> d.policy(0, 0, 0, "c0 = 5", 1, 2));
        counts(d, "policy of a longer CONDITION", 1, () -> d.policy(0, 0, 0, "c0 = 5 + 1", 1, 2));
        counts(d, "policy of a shorter CONDITION", 1, () -> d.policy(0, 0, 0, "c0 = 5", 1, 2));
        counts(d, "unpolicy", 1, () -> d.base.unpolicy(0, 0, 0));
        counts(d, "join", 1, () -> d.base.join(0, 4, 0, false));
        counts(d, "join with ADMIN", 1, () -> d.base.join(0, 4, 0, true));
        counts(d, "join without ADMIN again", 1, () -> d.base.join(0, 4, 0, false));
        counts(d, "leave", 1, () -> d.base.leave(0, 4, 0));
        counts(d, "grant", 1, () -> d.base.grant(0, 0, 1, -1, 1, false));
        counts(d, "grant with OPTION", 1, () -> d.base.grant(0, 0, 1, -1, 1, true));
        counts(d, "revoke of OPTION", 1, () -> d.base.revoke(0, 0, 1, -1, 1, 2));
        counts(d, "revoke", 1, () -> d.base.revoke(0, 0, 1, -1, 1, 0));
        counts(d, "insert", 1, () -> d.insert(0, 0, "5"));
        counts(d, "update", 1, () -> d.run(0, "update T0 set c1 = 6 where c0 = 5"));
        counts(d, "delete", 1, () -> d.run(0, "delete T0 where c0 = 5"));
        counts(d, "drop with all that is of it", 1, () -> d.base.drop(0, 0));
    }

    /** Calls behind which the DATABASE is as it was: VERSION stays. */
    private static void noChanges() {
        Desk d = prepare();
        counts(d, "a like grant", 0, () -> d.base.grant(0, 0, 0, -1, 1, false));
        counts(d, "own by the OWNER", 0, () -> d.base.own(0, 0, 0));
        counts(d, "secure as it is", 0, () -> d.base.secure(0, 0, 0));
        counts(d, "a like policy", 0, () -> d.policy(0, 0, 1, "c0 = me", 0, 1));
        counts(d, "a like join", 0, () -> d.base.join(0, 3, 0, false));
        counts(d, "update to what is there", 0, () -> d.run(0, "update T0 set c0 = c0"));
        counts(d, "update of none", 0, () -> d.run(0, "update T0 set c0 = 9 where c0 = 9"));
        counts(d, "delete of none", 0, () -> d.run(0, "delete T0 where c0 = 9"));
        counts(d, "a query", 0, () -> d.run(0, "select * from T0"));
        counts(d, "an ERROR", 0, () -> d.run(0, "delete T3"));
        counts(d, "REFUSED", 0, () -> d.base.make(0, 0, 2));
        counts(d, "act", 0, () -> d.base.act(2, 7));
        counts(d, "say", 0, () -> d.base.say(0, 1, 2, 3, 4, 5));
        counts(d, "knock", 0, () -> d.base.knock());
        counts(d, "begin", 0, () -> d.base.begin(0));
        counts(d, "a call in a transaction", 0, () -> d.base.make(0, 3, 1));
        counts(d, "savepoint", 0, () -> d.base.savepoint(0));
        counts(d, "back", 0, () -> d.base.backTo(0, 0));
        counts(d, "roll back", 0, () -> d.base.rollBack(0));
        Desk.is("as it was", d.base.house(0), START);
    }

    /** "the NUMBER that the next ROW would have is of it". */
    private static void nextNumber() {
        Desk d = prepare();
        d.base.begin(0);
        Desk.is("alike", d.base.ofSession(0, 4), 0);
        d.insert(0, 0, "5");
        d.run(0, "delete T0 where c0 = 5");
        Desk.is("the ROWS are as they were", d.base.text(0, 0), d.base.text(1, 0));
        Desk.is("another one", d.base.ofSession(0, 4), 1);
        Desk.is("so it counts", d.base.commit(0), START + 1);
        Desk.is("the next NUMBER", d.base.ofObject(1, 0, 4), 3);
        d.base.begin(0);
        d.base.secure(0, 0, 1);
        d.base.secure(0, 0, 0);
        Desk.is("changed and changed back", d.base.ofSession(0, 4), 0);
        Desk.is("does not count", d.base.commit(0), START + 1);
    }

    /** Each fact by which alone two DATABASES may differ: COLUMNS, NUMBERS, a ROW of 0 alone, a TEXT. */
    private static void differences() {
        Desk d = new Desk();
        d.base.make(0, 0, 1);
        d.base.begin(0);
        d.base.drop(0, 0);
        d.base.make(0, 0, 2);
        Desk.is("COLUMNS", d.base.ofSession(0, 4), 1);
        Desk.is("count", d.base.commit(0), 2);
        d.insert(0, 0, "5");
        d.insert(0, 0, "6");
        d.run(0, "delete T0 where c0 = 6");
        d.base.begin(0);
        d.base.drop(0, 0);
        d.base.make(0, 0, 2);
        d.insert(0, 0, "6");
        d.insert(0, 0, "5");
        Desk.is("ROWS", d.base.ofSession(0, 4), 1);
        d.run(0, "delete T0 where c0 = 6");
        Desk.is("the next NUMBER is the same", d.base.ofObject(0, 0, 4), d.base.ofObject(1, 0, 4));
        Desk.is("NUMBERS", d.base.ofSession(0, 4), 1);
        Desk.is("count", d.base.commit(0), 6);
        Desk.is("so", d.base.text(1, 0), "1:5,-");
        Desk e = new Desk();
        e.base.make(0, 0, 4);
        e.insert(0, 0, "0", "0", "0", "0");
        e.base.begin(0);
        e.run(0, "delete T0");
        Desk.is("a ROW of 0", e.base.ofSession(0, 4), 1);
        Desk.is("counts", e.base.commit(0), 3);
        e.function(0, 0, "p + 1", true);
        e.view(0, 0, "select c0 from T0", true);
        e.base.begin(0);
        e.base.drop(0, 8);
        Desk.is("an OBJECT", e.base.ofSession(0, 4), 1);
        e.function(0, 0, "p", true);
        Desk.is("a shorter TEXT", e.base.ofSession(0, 4), 1);
        e.base.drop(0, 8);
        e.function(0, 0, "p + 1 + 1", true);
        Desk.is("a longer TEXT", e.base.ofSession(0, 4), 1);
        e.base.drop(0, 8);
        e.function(0, 0, "p + 1", true);
        Desk.is("the same", e.base.ofSession(0, 4), 0);
        e.base.drop(0, 4);
        e.view(0, 0, "select c1 from T0", true);
        Desk.is("the TEXT of a VIEW", e.base.ofSession(0, 4), 1);
        e.base.drop(0, 4);
        e.view(0, 0, "select c0 from T0", false);
        Desk.is("ASKER's rights", e.base.ofSession(0, 4), 1);
        e.base.rollBack(0);
        e.base.make(0, 1, 1);
        e.insert(0, 1, "8");
        e.insert(0, 1, "9");
        e.run(0, "delete T1 where c0 = 8");
        e.insert(0, 0, "3");
        e.base.begin(0);
        e.base.drop(0, 0);
        e.base.make(0, 0, 4);
        for (int i = 0; i < 8; i++) {
            e.insert(0, 0, "4");
        }
        e.base.drop(0, 0);
        e.base.make(0, 0, 4);
        e.insert(0, 0, "4");
        e.run(0, "delete T0");
        e.insert(0, 0, "3");
        Desk.is("a TABLE that was full, and is as it was", e.base.ofSession(0, 4), 0);
    }

    /** "if VERSION is as it was when it began ...; otherwise that is a CONFLICT (also if nothing was done in it)". */
    private static void conflicts() {
        Desk d = prepare();
        d.base.begin(0);
        d.base.begin(1);
        d.base.begin(2);
        Desk.is("VERSION as it began", d.base.ofSession(2, 3), START);
        d.base.make(0, 3, 1);
        d.base.make(1, 3, 2);
        Desk.is("the first one", d.base.commit(1), START + 1);
        d.base.savepoint(0);
        Desk.is("the second one", d.base.commit(0), -7);
        Desk.is("nothing done in the third one", d.base.commit(2), -7);
        Desk.is("CONFLICTS", d.base.house(2), 2);
        Desk.is("VERSION stays by them", d.base.house(0), START + 1);
        Desk.is("not REFUSED", d.base.house(1), 0);
        Desk.is("all of it is gone", d.base.ofObject(0, 3, 2), 2);
        for (int s = 0; s < 3; s++) {
            Desk.is("no transaction", d.base.ofSession(s, 1), 0);
            Desk.is("no SAVEPOINTS", d.base.ofSession(s, 2), 0);
            Desk.is("no VERSION as it began", d.base.ofSession(s, 3), -1);
            Desk.is("no OWN copy", d.base.ofSession(s, 4), 0);
        }
        d.refused("a second time", () -> d.base.commit(0));
        d.base.begin(0);
        d.base.secure(2, 3, 0);
        d.base.act(2, 1);
        d.base.secure(2, 3, 1);
        d.base.secure(2, 3, 0);
        Desk.is("all is as it was, but VERSION", d.base.ofSession(0, 4), 0);
        Desk.is("a CONFLICT", d.base.commit(0), -7);
    }

    /** Commits of nothing do not disturb another transaction; one that changes does. */
    private static void others() {
        Desk d = prepare();
        d.base.begin(0);
        d.base.begin(1);
        d.base.begin(2);
        d.base.secure(0, 0, 2);
        Desk.is("nothing done", d.base.commit(1), START);
        d.base.make(2, 3, 1);
        Desk.is("gone", d.base.rollBack(2), 0);
        Desk.is("commit", d.base.commit(0), START + 1);
        Desk.is("it took the place", d.base.ofObject(2, 0, 5), 2);
        Desk.is("no CONFLICT", d.base.house(2), 0);
        d.base.begin(1);
        Desk.is("VERSION as it begins", d.base.ofSession(1, 3), START + 1);
        d.base.knock();
        d.run(0, "select * from T0");
        Desk.is("a call that changes nothing is no CONFLICT", d.base.commit(1), START + 1);
    }

    /** "SAVEPOINTS of a transaction: the OWN copy as it was then"; "those behind that one go (it stays)". */
    private static void savepoints() {
        Desk d = prepare();
        d.base.begin(0);
        d.insert(0, 0, "10");
        d.base.savepoint(0);
        d.insert(0, 0, "11");
        d.base.savepoint(0);
        d.insert(0, 0, "12");
        d.base.savepoint(0);
        d.run(0, "delete T0");
        Desk.is("none left", d.base.text(0, 0), "");
        for (int i = 0; i < 2; i++) {
            Desk.is("back to the last, it stays", d.base.backTo(0, 2), 3);
            Desk.is("ROWS", d.base.text(0, 0), "0:1,2;1:3,4;2:10,-;3:11,-;4:12,-");
            d.run(0, "delete T0");
        }
        Desk.is("back to the second", d.base.backTo(0, 1), 2);
        Desk.is("ROWS", d.base.text(0, 0), "0:1,2;1:3,4;2:10,-;3:11,-");
        Desk.is("the next NUMBER", d.base.ofObject(0, 0, 4), 4);
        d.base.drop(0, 0);
        Desk.is("a new one at its place", d.base.savepoint(0), 3);
        Desk.is("back to the first", d.base.backTo(0, 0), 1);
        Desk.is("ROWS", d.base.text(0, 0), "0:1,2;1:3,4;2:10,-");
        Desk.is("GRANTS and POLICIES", d.base.grants(0, 0) + " " + d.base.policyText(0, 0, 1), "0.*:0>1 0,1:c0 = me");
        Desk.is("of the others", d.base.text(1, 0), "0:1,2;1:3,4");
        Desk.is("it is not as it began", d.base.ofSession(0, 4), 1);
        Desk.is("commit", d.base.commit(0), START + 1);
        Desk.is("for all", d.base.text(1, 0), "0:1,2;1:3,4;2:10,-");
        Desk.is("SAVEPOINTS are gone", d.base.ofSession(0, 2), 0);
    }

    /** What may be read is asked anew behind each change, back to a SAVEPOINT, and in each new copy. */
    private static void readAnew() {
        Desk d = prepare();
        d.base.secure(0, 0, 2);
        d.policy(0, 0, 0, "c0 = 1", 0, 0);
        Desk.is("one ROW", reads(d), "0|0|1,2");
        for (int i = 0; i < 2; i++) {
            d.base.begin(0);
            Desk.is("in the copy", reads(d), "0|0|1,2");
            d.base.savepoint(0);
            d.policy(0, 0, 0, "c0 = 3", 0, 0);
            Desk.is("another one", reads(d), "1|1|3,4");
            d.base.backTo(0, 0);
            Desk.is("back", reads(d), "0|0|1,2");
            d.base.unpolicy(0, 0, 0);
            Desk.is("none", reads(d), "||");
            d.base.rollBack(0);
            Desk.is("as all have it", reads(d), "0|0|1,2");
        }
        d.policy(0, 0, 0, "c0 = 3", 0, 0);
        Desk.is("changed for all", reads(d), "1|1|3,4");
        d.base.begin(0);
        Desk.is("in a new copy", reads(d), "1|1|3,4");
        d.policy(0, 0, 0, "0 = 0", 0, 0);
        Desk.is("all", reads(d), "0 1|0 1|1,2;3,4");
        d.base.commit(0);
        Desk.is("all for all", reads(d), "0 1|0 1|1,2;3,4");
        d.base.unpolicy(0, 0, 0);
        Desk.is("none for all", reads(d), "||");
        d.policy(0, 0, 0, "F0 ( 0 ) = c0", 0, 0);
        Desk.is("by a FUNCTION", reads(d), "0|0|1,2");
        d.base.drop(0, 8);
        Desk.is("which goes", reads(d), "||");
        d.function(0, 0, "p + 3", true);
        Desk.is("which is another one", reads(d), "1|1|3,4");
        d.base.own(0, 8, 2);
        Desk.is("which is not KNOWN", reads(d), "||");
        d.policy(0, 0, 0, "member A4", 0, 0);
        Desk.is("by a CIRCLE", reads(d), "||");
        d.base.act(1, 4);
        d.base.join(1, 0, 4, false);
        Desk.is("which grows", reads(d), "0 1|0 1|1,2;3,4");
        d.base.leave(1, 0, 4);
        Desk.is("and shrinks", reads(d), "||");
        d.base.secure(0, 0, 1);
        Desk.is("by SECURITY", reads(d), "0 1|0 1|1,2;3,4");
        d.run(0, "delete T0 where c0 = 1");
        Desk.is("by ROWS", reads(d), "1|1|3,4");
    }

    /** What ACTOR 0 reads of T0, told in three ways in SESSION 0. */
    private static String reads(Desk d) {
        String rows = d.base.rows(0, 0, 0, false) + "|" + d.base.rows(0, 0, 0, false) + "|";
        return rows + d.told(0, "select * from T0");
    }

    /** The DATABASE as it began stays, whatever others do: each method asks in the OWN copy. */
    private static void ownCopy() {
        Desk d = prepare();
        d.type(0, "select F0 ( c0 ) from V0");
        d.type(1, "c0 = 1");
        d.base.grant(0, 4, 0, -1, 1, false);
        d.base.grant(0, 8, 4, -1, 1, false);
        d.base.begin(1);
        String before = asked(d, 1);
        Desk.is("as all", asked(d, 0).substring(1), before.substring(1));
        d.base.drop(0, 4);
        d.base.drop(0, 8);
        d.base.leave(0, 3, 0);
        d.base.unpolicy(0, 0, 1);
        d.base.secure(0, 0, 2);
        d.base.drop(0, 0);
        Desk.is("as it was", asked(d, 1), before);
        Desk.is("not elsewhere", asked(d, 2), "|-12|||2@1|0|8||-1|||||falsefalse0|-9999");
        for (int what = 4; what <= 8; what++) {
            Desk.is("house is of what all share, " + what, d.base.house(what), 0);
        }
        Desk.is("a change in it", d.insert(1, 0, "7"), -13);
        d.base.rollBack(1);
        Desk.is("then as elsewhere", asked(d, 1), asked(d, 2));
    }

    /** What the asking methods tell a SESSION. */
    private static String asked(Desk d, int s) {
        Grantbase x = d.base;
        StringBuilder all = new StringBuilder("|");
        all.append(x.run(s, 0)).append('|').append(x.answer(s)).append('|').append(x.told(s, 0, 1)).append('|');
        all.append(x.fault(s, 0, 0, false)).append('@').append(x.fault(s, 0, 0, true)).append('|');
        all.append(x.areAlike(s, 0, 1, 2) ? 0 : 1).append('|').append(x.circle(s, 3)).append('|');
        all.append(x.members(s)).append('|');
        all.append(x.ofObject(s, 0, 0)).append('|').append(x.text(s, 0)).append('|').append(x.text(s, 8)).append('|');
        all.append(x.policyText(s, 0, 1)).append('|').append(x.grants(s, 0)).append('|');
        all.append(x.rows(s, 1, 0, false)).append(x.has(s, 1, 0, 0, -1, false)).append(x.isKnown(s, 1, 8));
        all.append(x.sees(s, 1, 4)).append('|').append(x.call(s, 0, 1, 1));
        return all.toString();
    }

    public static void main(String[] args) {
        changes();
        noChanges();
        nextNumber();
        differences();
        conflicts();
        others();
        savepoints();
        readAnew();
        ownCopy();
        Desk.end("VersionsTest");
    }
}
