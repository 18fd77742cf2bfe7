/** Section 3: who may READ and WRITE which ROWS, by SECURITY, KINDS, ACTORS and CONDITIONS. */
public final class PoliciesTest {

    /** ACTOR 0 owns T0 with the ROWS 0 to 3 (c0 = 0 to 3, c1 is NULL in ROW 3); 5 is a MEMBER of 0. */
    private static Desk prepare(int security) {
        Desk d = new Desk();
        d.base.make(0, 0, 2);
        for (int i = 0; i < 4; i++) {
            d.insert(0, 0, "" + i, i == 3 ? "null" : "" + i * 10);
        }
        d.base.join(0, 5, 0, false);
        d.base.secure(0, 0, security);
        return d;
    }

    private static String rows(Desk d, int actor) {
        return d.base.rows(0, actor, 0, false) + "|" + d.base.rows(0, actor, 0, true);
    }

    /** "EXEMPT of a TABLE, if SECURITY is 0, or if it is 1 and the RUNNER OWNS the TABLE". */
    private static void exempt() {
        String all = "0 1 2 3|0 1 2 3";
        for (int security = 0; security <= 2; security++) {
            Desk d = prepare(security);
            Desk.is("OWNER, " + security, rows(d, 0), security < 2 ? all : "|");
            Desk.is("MEMBER of the OWNER, " + security, rows(d, 5), security < 2 ? all : "|");
            Desk.is("another one, " + security, rows(d, 1), security < 1 ? all : "|");
            d.policy(0, 0, 0, "c0 = 9", 0, 0);
            d.policy(0, 0, 1, "c0 = 9", 2, 0);
            d.policy(0, 0, 2, "c0 = 9", 3, 0);
            Desk.is("with POLICIES, " + security, rows(d, 0), security < 2 ? all : "|");
            Desk.is("ROWS to change, " + security, d.run(0, "update T0 set c0 = c0"), security < 2 ? 4 : 0);
        }
        Desk d = prepare(1);
        d.base.own(0, 0, 1);
        Desk.is("the OWNER before", rows(d, 0), "|");
        Desk.is("the OWNER now", rows(d, 1), all);
    }

    /** "the CONDITION of a POLICY of the KIND 0 ... is TRUE, and the CONDITIONS of all of the KIND 2 are". */
    private static void kinds() {
        for (int kind = 0; kind < 4; kind++) {
            Desk d = prepare(2);
            d.policy(0, 0, 0, "c0 = 1", kind, 0);
            Desk.is("alone, KIND " + kind, rows(d, 0), kind == 0 ? "1|" : kind == 1 ? "|1" : "|");
            d.policy(0, 0, 1, "0 = 0", 0, 0);
            d.policy(0, 0, 2, "0 = 0", 1, 0);
            String[] dues = {"0 1 2 3|0 1 2 3", "0 1 2 3|0 1 2 3", "1|0 1 2 3", "0 1 2 3|1"};
            Desk.is("with what lets all, KIND " + kind, rows(d, 0), dues[kind]);
            d.policy(0, 0, 3, "c0 <= 1", kind, 0);
            String[] two = {dues[0], dues[1], "1|0 1 2 3", "0 1 2 3|1"};
            Desk.is("two of the KIND " + kind, rows(d, 0), two[kind]);
            d.policy(0, 0, 3, "c0 = 2", kind, 0);
            String[] other = {dues[0], dues[1], "|0 1 2 3", "0 1 2 3|"};
            Desk.is("another one of the KIND " + kind, rows(d, 0), other[kind]);
        }
        Desk d = prepare(2);
        d.policy(0, 0, 3, "c0 = 0", 0, 0);
        d.policy(0, 0, 0, "c0 = 2", 0, 0);
        Desk.is("one of two that let", rows(d, 0), "0 2|");
        d.base.unpolicy(0, 0, 3);
        Desk.is("it goes", rows(d, 0), "2|");
        d.base.unpolicy(0, 0, 0);
        Desk.is("both are gone", rows(d, 0), "|");
    }

    /** UNKNOWN is not TRUE: it lets nothing, and it bars. */
    private static void unknown() {
        Desk d = prepare(2);
        d.policy(0, 0, 0, "c1 <= 20", 0, 0);
        Desk.is("lets none that is UNKNOWN", rows(d, 0), "0 1 2|");
        d.policy(0, 0, 0, "not c1 <= 5", 0, 0);
        Desk.is("nor by not", rows(d, 0), "1 2|");
        d.policy(0, 0, 0, "c1 <= 5 or c1 is null", 0, 0);
        Desk.is("or TRUE", rows(d, 0), "0 3|");
        d.policy(0, 0, 0, "0 = 0", 0, 0);
        d.policy(0, 0, 1, "c1 < 20", 2, 0);
        Desk.is("bars what is UNKNOWN", rows(d, 0), "0 1|");
        d.policy(0, 0, 1, "null = null", 2, 0);
        Desk.is("bars all", rows(d, 0), "|");
    }

    /** "it is for all in whose CIRCLE that one is". */
    private static void actors() {
        Desk d = prepare(2);
        d.base.act(1, 6);
        d.base.join(1, 5, 6, false);
        d.base.act(1, 5);
        d.base.join(1, 7, 5, false);
        d.policy(0, 0, 0, "c0 = 0", 0, 0);
        d.policy(0, 0, 1, "c0 = 1", 0, 5);
        d.policy(0, 0, 2, "c0 = 2", 0, 6);
        d.policy(0, 0, 3, "c0 = 3", 0, 7);
        Desk.is("0", rows(d, 0), "0|");
        Desk.is("5, of 0 and 6", rows(d, 5), "0 1 2|");
        Desk.is("6", rows(d, 6), "2|");
        Desk.is("7, of 5, and so on", rows(d, 7), "0 1 2 3|");
        Desk.is("another one", rows(d, 1), "|");
        d.policy(0, 0, 3, "c0 <> 1", 2, 5);
        Desk.is("barred for 5", rows(d, 5), "0 2|");
        Desk.is("and 7", rows(d, 7), "0 2|");
        Desk.is("not for 6", rows(d, 6), "2|");
        d.base.leave(1, 7, 5);
        Desk.is("no MEMBER any more", rows(d, 7), "|");
    }

    /** "looks at all COLUMNS of the ROW; me there is the RUNNER"; asker is the ACTOR of the SESSION. */
    private static void conditions() {
        Desk d = prepare(2);
        d.base.grant(0, 0, 0, 0, 2, false);
        d.policy(0, 0, 0, "c1 = 10", 0, 2);
        Desk.is("a COLUMN that it does not SEE", d.base.sees(0, 2, 0), 1);
        Desk.is("is looked at", rows(d, 2), "1|");
        Desk.is("in a query", d.told(2, "select * from T0"), "1");
        d.policy(0, 0, 0, "c0 = me", 0, 0);
        d.policy(0, 0, 1, "c0 = me and asker = me", 0, 2);
        d.policy(0, 0, 2, "c0 = me + 1 and asker = 1", 0, 0);
        d.policy(0, 0, 3, "member A2 and c0 = 3", 0, 2);
        Desk.is("me", rows(d, 0), "0|");
        Desk.is("another me", rows(d, 2), "2 3|");
        d.view(0, 0, "select c0 from T0", true);
        d.base.grant(0, 4, 0, -1, 1, false);
        d.base.grant(0, 4, 0, -1, 2, false);
        Desk.is("the OWNER of a VIEW is the RUNNER", d.told(2, "select * from V0"), "0");
        Desk.is("asker is who asks", d.told(1, "select * from V0"), "0;1");
        Desk.is("it does not OWN it", rows(d, 1), "|");
    }

    /** "FUNCTIONS in it are called as by the OWNER of the TABLE, but me in their arguments is the RUNNER". */
    private static void functions() {
        Desk d = prepare(2);
        d.function(1, 0, "p + me * 0", false);
        d.base.grant(1, 8, 4, -1, 0, false);
        d.policy(0, 0, 0, "c0 = F0 ( me ) and F0 ( me ) is not null", 0, 2);
        Desk.is("it is not KNOWN to the RUNNER", d.base.isKnown(0, 2, 8), false);
        Desk.is("me in the argument", rows(d, 2), "2|");
        d.base.revoke(1, 8, 4, -1, 0, 1);
        Desk.is("not KNOWN to the OWNER now: NULL", rows(d, 2), "|");
        d.base.grant(1, 8, 4, -1, 2, false);
        Desk.is("KNOWN to the RUNNER alone", rows(d, 2), "|");
        d.base.grant(1, 8, 4, -1, 0, false);
        d.base.drop(1, 8);
        d.function(0, 0, "p * 0 + me", false);
        d.policy(0, 0, 0, "c0 = F0 ( me )", 0, 2);
        Desk.is("me in it with ASKER's rights is the OWNER of the TABLE", rows(d, 2), "0|");
        d.base.drop(0, 8);
        Desk.is("not there: NULL", rows(d, 2), "|");
        Desk.is("the POLICY stays as it is typed", d.base.policyText(0, 0, 0), "0,2:c0 = F0 ( me )");
        d.function(0, 0, "p * 0 + asker", true);
        Desk.is("asker throughout", rows(d, 2), "2|");
        d.base.own(0, 8, 3);
        d.policy(0, 0, 1, "c0 = F0 ( 1 )", 0, 2);
        Desk.is("F0 is another one's", rows(d, 2), "|");
    }

    /** What an insert, update and delete meet: what is SEEN and may be written, ahead and then. */
    private static void changes() {
        Desk d = prepare(1);
        d.base.grant(0, 0, 0, -1, 2, false);
        d.base.grant(0, 0, 1, -1, 2, false);
        d.base.grant(0, 0, 2, -1, 2, false);
        d.base.grant(0, 0, 3, -1, 2, false);
        d.policy(0, 0, 0, "c0 <= 2", 0, 2);
        d.policy(0, 0, 1, "1 <= c0", 1, 2);
        Desk.is("read and write", rows(d, 2), "0 1 2|1 2 3");
        Desk.is("update of both alone", d.run(2, "update T0 set c1 = 7"), 2);
        Desk.is("so", d.base.text(0, 0), "0:0,0;1:1,7;2:2,7;3:3,-");
        Desk.is("BARRED as one is then", d.run(2, "update T0 set c0 = c0 - 1"), -15);
        Desk.is("nothing changes", d.base.text(0, 0), "0:0,0;1:1,7;2:2,7;3:3,-");
        Desk.is("of the other one alone", d.run(2, "update T0 set c0 = c0 - 1 where c0 = 2"), 1);
        Desk.is("it does not SEE it then", d.run(2, "update T0 set c0 = 5 where c0 = 1"), 2);
        Desk.is("so", d.base.text(0, 0), "0:0,0;1:5,7;2:5,7;3:3,-");
        Desk.is("insert", d.run(2, "insert T0 c0 = 1"), 1);
        Desk.is("insert of what it does not SEE", d.run(2, "insert T0 c0 = 4"), 1);
        Desk.is("insert BARRED", d.run(2, "insert T0 c0 = 0"), -15);
        Desk.is("insert of NULL BARRED", d.run(2, "insert T0 c1 = 1"), -15);
        Desk.is("delete of both alone", d.run(2, "delete T0"), 1);
        Desk.is("so", d.base.text(0, 0), "0:0,0;1:5,7;2:5,7;3:3,-;5:4,-");
        d.policy(0, 0, 2, "0 = 1", 3, 2);
        Desk.is("none may be written", d.run(2, "update T0 set c1 = 1"), 0);
        Desk.is("nor deleted", d.run(2, "delete T0"), 0);
        Desk.is("BARRED", d.run(2, "insert T0 c0 = 1"), -15);
        d.policy(0, 0, 2, "c1 is null", 3, 2);
        Desk.is("of a RIGHT for a COLUMN, the others are NULL", d.run(2, "insert T0 c0 = 1"), 1);
    }

    /** Each TABLE, with its own COLUMNS, ROWS, NUMBERS, SECURITY and POLICIES. */
    private static void eachTable() {
        Desk d = new Desk();
        for (int t = 0; t < 4; t++) {
            d.base.make(0, t, t + 1);
            for (int i = 0; i < 6; i++) {
                d.insert(0, t, i + " + 10 * " + t);
            }
            d.run(0, "delete T" + t + " where c0 < 10 * " + t + " + " + t);
        }
        String[] numbers = {"0 1 2 3 4 5", "1 2 3 4 5", "2 3 4 5", "3 4 5"};
        String[] texts = {"0:0;1:1;2:2;3:3;4:4;5:5", "1:11,-;2:12,-;3:13,-;4:14,-;5:15,-",
            "2:22,-,-;3:23,-,-;4:24,-,-;5:25,-,-", "3:33,-,-,-;4:34,-,-,-;5:35,-,-,-"};
        for (int t = 0; t < 4; t++) {
            Desk.is("ROWS", d.base.text(1, t), texts[t]);
            Desk.is("NUMBERS to READ", d.base.rows(1, 0, t, false), numbers[t]);
            Desk.is("NUMBERS to WRITE", d.base.rows(1, 7, t, true), numbers[t]);
        }
        for (int t = 0; t < 4; t++) {
            Desk.is("a POLICY", d.policy(0, t, t, "c0 = 10 * " + t + " + 3 or c0 = 10 * " + t + " + 5", 0, 0), 1);
            Desk.is("another one", d.policy(0, t, 3 - t, "c0 = 10 * " + t + " + 3", 1, 0), 2);
            d.base.secure(0, t, 2);
        }
        for (int t = 0; t < 4; t++) {
            Desk.is("READ and WRITE", d.base.rows(1, 0, t, false) + "|" + d.base.rows(1, 0, t, true), "3 5|3");
            Desk.is("update", d.run(0, "update T" + t + " set c" + t + " = c0 where 0 < c0"), 1);
            Desk.is("insert BARRED", d.insert(0, t, "1"), -15);
            Desk.is("insert", d.insert(0, t, "10 * " + t + " + 3"), 1);
            Desk.is("delete", d.run(0, "delete T" + t + " where c" + t + " = c0"), t == 0 ? 2 : 1);
            Desk.is("unpolicy", d.base.unpolicy(0, t, t), 1);
            Desk.is("of none", d.base.unpolicy(0, t, t), -9);
            Desk.is("the other one", d.base.policyText(0, t, 3 - t), "1,0:c0 = 10 * " + t + " + 3");
            Desk.is("none to READ", d.base.rows(1, 0, t, false), "");
            Desk.is("set of POLICIES", d.base.ofObject(0, t, 6), 1 << 3 - t);
        }
        String[] then = {"0:0;1:1;2:2;4:4;5:5", "1:11,-;2:12,-;4:14,-;5:15,-;6:13,-", "2:22,-,-;4:24,-,-;5:25,-,-;6:23,-,-",
            "4:34,-,-,-;5:35,-,-,-;6:33,-,-,-"};
        for (int t = 0; t < 4; t++) {
            Desk.is("ROWS then", d.base.text(1, t), then[t]);
            d.base.secure(0, t, 0);
            Desk.is("update of all", d.run(0, "update T" + t + " set c" + t + " = c0 + 1"), then[t].split(";").length);
        }
        Desk.is("each by itself", d.base.text(0, 1) + "|" + d.base.text(0, 3),
                "1:11,12;2:12,13;4:14,15;5:15,16;6:13,14|4:34,-,-,35;5:35,-,-,36;6:33,-,-,34");
    }

    public static void main(String[] args) {
        exempt();
        kinds();
        unknown();
        actors();
        conditions();
        functions();
        changes();
        eachTable();
        Desk.end("PoliciesTest");
    }
}
