/** Promises 46 to 49: the whole. */
public final class WholeTest {

    private static void knock() {
        Desk d = new Desk();
        Desk.is("first", d.base.knock(), 1);
        Desk.is("second", d.base.knock(), 2);
        Desk.is("house", d.base.house(3), 2);
    }

    private static Desk full() {
        Desk d = new Desk();
        d.base.make(0, 0, 3);
        d.base.make(1, 1, 2);
        d.run(0, "insert T0 c0 = 1 , c1 = 2 , c2 = 3");
        d.run(0, "insert T0 c0 = 2 , c1 = 3");
        d.run(1, "insert T1 c0 = 2");
        d.base.grant(0, 0, 0, 0, 2, true);
        d.base.grant(0, 0, 0, 1, 3, false);
        d.base.grant(1, 1, 0, -1, 2, true);
        d.base.join(1, 4, 1, true);
        d.function(0, 0, "p + me", false);
        d.base.grant(0, 8, 4, -1, 2, false);
        d.view(0, 0, "select c0 , F0 ( c0 ) from T0", true);
        d.policy(0, 0, 0, "c0 = me or member A1", 0, 2);
        d.policy(0, 0, 1, "c1 is not null", 2, 2);
        d.base.secure(0, 0, 1);
        d.type(0, "select c0 , count ( * ) from T0 group c0");
        d.type(1, "select * from T0 , T1");
        d.type(2, "select * from V0");
        d.base.begin(2);
        d.base.savepoint(2);
        d.base.leave(0, 4, 1);
        d.base.act(0, 3);
        d.base.run(1, 2);
        d.base.run(2, 0);
        return d;
    }

    private static void house() {
        Desk d = full();
        Desk.is("version", d.base.house(0), 15);
        Desk.is("refused", d.base.house(1), 1);
        Desk.is("conflicts", d.base.house(2), 0);
        Desk.is("objects", d.base.house(4), 4);
        Desk.is("grants", d.base.house(5), 4);
        Desk.is("memberships", d.base.house(6), 1);
        Desk.is("rows", d.base.house(7), 3);
        Desk.is("policies", d.base.house(8), 2);
        d.base.act(0, 1);
        d.base.leave(0, 4, 1);
        Desk.is("no memberships", d.base.house(6), 0);
        Desk.is("commit", d.base.commit(2), -7);
        Desk.is("conflicts", d.base.house(2), 1);
    }

    private static void sound() {
        Desk.is("a new one", new Grantbase().isSound(), true);
        Desk.is("a full one", full().base.isSound(), true);
    }

    /** The checksum by what all other methods tell. */
    private static long digest(Grantbase x) {
        long d = 7677;
        for (int what = 0; what <= 8; what++) {
            d = d * 31 + x.house(what);
        }
        for (int s = 0; s < 3; s++) {
            for (int what = 0; what <= 4; what++) {
                d = d * 31 + x.ofSession(s, what);
            }
            for (int what = 0; what <= 4; what++) {
                d = d * 31 + x.result(s, what);
            }
            d = d * 31 + x.answer(s).length();
            d = d * 31 + x.members(s).length();
            for (int object = 0; object < 12; object++) {
                for (int what = 0; what <= 7; what++) {
                    d = d * 31 + x.ofObject(s, object, what);
                }
                d = d * 31 + x.text(s, object).length();
                d = d * 31 + x.grants(s, object).length();
            }
            for (int table = 0; table < 4; table++) {
                for (int policy = 0; policy < 4; policy++) {
                    d = d * 31 + x.policyText(s, table, policy).length();
                }
            }
            d = actorsAndSheets(x, s, d);
        }
        return d * 31 + (x.isSound() ? 1 : 0);
    }

    private static long actorsAndSheets(Grantbase x, int s, long start) {
        long d = start;
        for (int actor = 0; actor < 8; actor++) {
            d = d * 31 + x.circle(s, actor);
            for (int object = 0; object < 12; object++) {
                d = d * 31 + (x.isKnown(s, actor, object) ? 1 : 0);
            }
            for (int object = 0; object < 8; object++) {
                d = d * 31 + x.sees(s, actor, object);
            }
            for (int table = 0; table < 4; table++) {
                d = d * 31 + x.rows(s, actor, table, false).length();
                d = d * 31 + x.rows(s, actor, table, true).length();
            }
        }
        for (int sheet = 0; sheet < 4; sheet++) {
            d = d * 31 + x.typed(sheet).length();
            for (int form = 0; form < 4; form++) {
                d = d * 31 + x.fault(s, sheet, form, false);
                d = d * 31 + x.fault(s, sheet, form, true);
            }
            d = d * 31 + x.would(s, sheet).length();
        }
        return d;
    }

    private static void digest() {
        Desk d = new Desk();
        Desk.is("of a new one", d.base.digest(), digest(d.base));
        d = full();
        long before = d.base.digest();
        Desk.is("of a full one", before, digest(d.base));
        Desk.is("asking changes nothing", d.base.digest(), before);
        d.base.knock();
        Desk.is("another one", d.base.digest() == before, false);
        Desk.is("by all others", d.base.digest(), digest(d.base));
    }

    public static void main(String[] args) {
        knock();
        house();
        sound();
        digest();
        Desk.end("WholeTest");
    }
}
