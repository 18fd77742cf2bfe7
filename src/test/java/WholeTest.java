import java.math.BigInteger;
import java.util.ArrayList;
import java.util.List;

/** Promises 46 to 49: the whole. */
public final class WholeTest {

    private static void knock() {
        Desk d = new Desk();
        Desk.is("first", d.base.knock(), 1);
        Desk.is("second", d.base.knock(), 2);
        Desk.is("house", d.base.house(3), 2);
    }

    private static Desk full() {
        Desk d = new Desk();
        d.base.make(0, 0, 3);
        d.base.make(1, 1, 2);
        d.run(0, "insert T0 c0 = 1 , c1 = 2 , c2 = 3");
        d.run(0, "insert T0 c0 = 2 , c1 = 3");
        d.run(1, "insert T1 c0 = 2");
        d.base.grant(0, 0, 0, 0, 2, true);
        d.base.grant(0, 0, 0, 1, 3, false);
        d.base.grant(1, 1, 0, -1, 2, true);
        d.base.join(1, 4, 1, true);
        d.function(0, 0, "p + me", false);
        d.base.grant(0, 8, 4, -1, 2, false);
        d.view(0, 0, "select c0 , F0 ( c0 ) from T0", true);
        d.policy(0, 0, 0, "c0 = me or member A1", 0, 2);
        d.policy(0, 0, 1, "c1 is not null", 2, 2);
        d.base.secure(0, 0, 1);
        d.type(0, "select c0 , count ( * ) from T0 group c0");
        d.type(1, "select * from T0 , T1");
        d.type(2, "select * from V0");
        d.base.begin(2);
        d.base.savepoint(2);
        d.base.leave(0, 4, 1);
        d.base.act(0, 3);
        d.base.run(1, 2);
        d.base.run(2, 0);
        return d;
    }

    private static void house() {
        Desk d = full();
        Desk.is("version", d.base.house(0), 15);
        Desk.is("refused", d.base.house(1), 1);
        Desk.is("conflicts", d.base.house(2), 0);
        Desk.is("objects", d.base.house(4), 4);
        Desk.is("grants", d.base.house(5), 4);
        Desk.is("memberships", d.base.house(6), 1);
        Desk.is("rows", d.base.house(7), 3);
        Desk.is("policies", d.base.house(8), 2);
        d.base.act(0, 1);
        d.base.leave(0, 4, 1);
        Desk.is("no memberships", d.base.house(6), 0);
        Desk.is("commit", d.base.commit(2), -7);
        Desk.is("conflicts", d.base.house(2), 1);
    }

    private static void sound() {
        Desk.is("a new one", new Grantbase().isSound(), true);
        Desk.is("a full one", full().base.isSound(), true);
    }

    /** What the checksum is of, in its sequence, by what all other methods tell. */
    private static List<Integer> numbers(Grantbase x) {
        List<Integer> all = new ArrayList<>();
        for (int what = 0; what <= 8; what++) {
            all.add(x.house(what));
        }
        for (int s = 0; s < 3; s++) {
            for (int what = 0; what <= 4; what++) {
                all.add(x.ofSession(s, what));
            }
            for (int what = 0; what <= 4; what++) {
                all.add(x.result(s, what));
            }
            all.add(x.answer(s).length());
            all.add(x.members(s).length());
            for (int object = 0; object < 12; object++) {
                for (int what = 0; what <= 7; what++) {
                    all.add(x.ofObject(s, object, what));
                }
                all.add(x.text(s, object).length());
                all.add(x.grants(s, object).length());
            }
            for (int table = 0; table < 4; table++) {
                for (int policy = 0; policy < 4; policy++) {
                    all.add(x.policyText(s, table, policy).length());
                }
            }
            addActorsAndSheets(x, s, all);
        }
        all.add(x.isSound() ? 1 : 0);
        return all;
    }

    private static void addActorsAndSheets(Grantbase x, int s, List<Integer> all) {
        for (int actor = 0; actor < 8; actor++) {
            all.add(x.circle(s, actor));
            for (int object = 0; object < 12; object++) {
                all.add(x.isKnown(s, actor, object) ? 1 : 0);
            }
            for (int object = 0; object < 8; object++) {
                all.add(x.sees(s, actor, object));
            }
            for (int table = 0; table < 4; table++) {
                all.add(x.rows(s, actor, table, false).length());
                all.add(x.rows(s, actor, table, true).length());
            }
        }
        for (int sheet = 0; sheet < 4; sheet++) {
            all.add(x.typed(sheet).length());
            for (int form = 0; form < 4; form++) {
                all.add(x.fault(s, sheet, form, false));
                all.add(x.fault(s, sheet, form, true));
            }
            all.add(x.would(s, sheet).length());
        }
    }

    private static long digest(Grantbase x) {
        long d = 7677;
        for (int v : numbers(x)) {
            d = d * 31 + v;
        }
        return d;
    }

    private static void digest() {
        Desk d = new Desk();
        Desk.is("of a new one", d.base.digest(), digest(d.base));
        d = full();
        long before = d.base.digest();
        Desk.is("of a full one", before, digest(d.base));
        Desk.is("asking changes nothing", d.base.digest(), before);
        d.base.knock();
        Desk.is("another one", d.base.digest() == before, false);
        Desk.is("by all others", d.base.digest(), digest(d.base));
    }

    /** "which wraps around as a 64-bit integer": the checksum without any bound, and what is left of it. */
    private static void wraps() {
        boolean isBelow = false;
        boolean isAbove = false;
        Desk[] all = {new Desk(), full(), full()};
        for (int i = 0; i < 20; i++) {
            for (Desk d : all) {
                BigInteger whole = BigInteger.valueOf(7677);
                for (int v : numbers(d.base)) {
                    whole = whole.multiply(BigInteger.valueOf(31)).add(BigInteger.valueOf(v));
                }
                Desk.is("far beyond", whole.bitLength() > 6000, true);
                long due = whole.mod(BigInteger.ONE.shiftLeft(64)).longValue();
                long got = d.base.digest();
                Desk.is("64 bits of it", got, due);
                isBelow |= got < 0;
                isAbove |= got > 0;
                d.base.knock();
            }
        }
        Desk.is("below 0", isBelow, true);
        Desk.is("above 0", isAbove, true);
        Desk.is("numbers of it", numbers(new Grantbase()).size(), 1270);
    }

    /** "used for at most 512 calls": the 512th one is answered as each before. */
    private static void lastCalls() {
        Grantbase knocked = new Grantbase();
        for (int i = 1; i <= 512; i++) {
            Desk.is("knock", knocked.knock(), i);
        }
        Grantbase refused = new Grantbase();
        for (int i = 1; i <= 511; i++) {
            Desk.is("refused", refused.commit(i % 3), -9);
        }
        Desk.is("so often", refused.house(1), 511);
        Grantbase changed = new Grantbase();
        changed.make(0, 0, 1);
        changed.sample(0, 7, 0, 0);
        changed.wipe(0, 4);
        changed.say(1, 16, 41, 37, 31, 100);
        for (int i = 0; i < 253; i++) {
            Desk.is("insert", changed.run(0, 1), 1);
            Desk.is("delete", changed.run(0, 0), 1);
        }
        changed.run(0, 1);
        Desk.is("the last one of 512 calls", changed.text(0, 0), "253:0");
        Grantbase conflicted = new Grantbase();
        conflicted.make(0, 0, 1);
        for (int i = 0; i < 170; i++) {
            conflicted.begin(1);
            conflicted.secure(0, 0, i % 2 + 1);
            Desk.is("conflict", conflicted.commit(1), -7);
        }
        Desk.is("the last one of 512 calls", conflicted.house(2), 170);
    }

    public static void main(String[] args) {
        knock();
        house();
        sound();
        digest();
        wraps();
        lastCalls();
        Desk.end("WholeTest");
    }
}
