/** Promises 25, 26 and 39 to 42: rights. */
public final class RightsTest {

    private static void grant() {
        Desk d = new Desk();
        Desk.is("not there", d.base.grant(0, 0, 0, -1, 1, true), -9);
        d.base.make(0, 0, 2);
        d.view(0, 0, "select * from T0", true);
        d.function(0, 0, "p", true);
        Desk.is("to itself", d.base.grant(0, 0, 0, -1, 0, true), -9);
        Desk.is("not had", d.base.grant(1, 0, 0, -1, 2, false), -9);
        Desk.is("first", d.base.grant(0, 0, 0, -1, 1, false), 1);
        Desk.is("had without option", d.base.grant(1, 0, 0, -1, 2, false), -9);
        Desk.is("with option then", d.base.grant(0, 0, 0, -1, 1, true), 1);
        Desk.is("text", d.base.grants(0, 0), "0.*:0>1!");
        Desk.is("it stays", d.base.grant(0, 0, 0, -1, 1, false), 1);
        Desk.is("text", d.base.grants(0, 0), "0.*:0>1!");
        Desk.is("given on, for a column", d.base.grant(1, 0, 0, 1, 2, true), 2);
        Desk.is("another one", d.base.grant(1, 0, 0, 0, 2, false), 3);
        Desk.is("that column alone", d.base.grant(2, 0, 0, 1, 3, false), 4);
        Desk.is("not without option", d.base.grant(2, 0, 0, 0, 3, false), -9);
        Desk.is("not for all", d.base.grant(2, 0, 0, -1, 3, false), -9);
        Desk.is("not another right", d.base.grant(1, 0, 1, -1, 3, false), -9);
        Desk.is("a column that it has not", d.base.grant(1, 0, 0, 3, 3, false), 5);
        Desk.is("back to the owner", d.base.grant(1, 0, 0, -1, 0, true), 6);
        Desk.is("text in order", d.base.grants(2, 0), "0.*:0>1! 0.*:1>0! 0.0:1>2 0.1:1>2! 0.1:2>3 0.3:1>3");
        Desk.is("of an object", d.base.ofObject(0, 0, 1), 6);
        Desk.is("of all", d.base.house(5), 6);
        Desk.is("of another object", d.base.grant(0, 4, 0, 2, 1, false), 1);
    }

    private static void fit() {
        Desk d = new Desk();
        d.base.make(0, 0, 2);
        d.view(0, 0, "select * from T0", true);
        d.function(0, 0, "p", true);
        int[] objects = {0, 4, 8};
        boolean[][] forAll = {{true, true, true, true, false}, {true, false, false, false, false},
            {false, false, false, false, true}};
        boolean[][] forOne = {{true, true, true, false, false}, {true, false, false, false, false},
            {false, false, false, false, false}};
        for (int i = 0; i < 3; i++) {
            for (int right = 0; right < 5; right++) {
                String what = "object " + objects[i] + " right " + right;
                Desk.is(what, d.base.has(0, 0, objects[i], right, -1, false), forAll[i][right]);
                Desk.is(what + " column", d.base.has(0, 0, objects[i], right, 3, true), forOne[i][right]);
                Desk.is(what + " to grant", d.base.grant(0, objects[i], right, -1, 1, false) == -9,
                        !forAll[i][right]);
                Desk.is(what + " to grant for a column", d.base.grant(0, objects[i], right, 2, 1, false) == -9,
                        !forOne[i][right]);
            }
        }
    }

    private static void full() {
        Desk d = new Desk();
        d.base.make(0, 0, 4);
        int many = 0;
        for (int right = 0; right < 3; right++) {
            for (int column = -1; column < 4; column++) {
                for (int actor = 1; actor < 8 && many < 40; actor++) {
                    many++;
                    Desk.is("grant", d.base.grant(0, 0, right, column, actor, false), many);
                }
            }
        }
        Desk.isRaised("41", "IllegalStateException", () -> d.base.grant(0, 0, 3, -1, 1, false));
        Desk.is("refused goes ahead", d.base.grant(1, 0, 3, -1, 2, false), -9);
        Desk.is("one that is there", d.base.grant(0, 0, 0, -1, 1, true), 40);
        Desk.is("still 40", d.base.house(5), 40);
        Desk.is("one goes", d.base.revoke(0, 0, 0, -1, 1, 1), 1);
        Desk.is("one comes", d.base.grant(0, 0, 3, -1, 1, false), 40);
    }

    private static void has() {
        Desk d = new Desk();
        d.base.make(0, 0, 2);
        d.base.grant(0, 0, 0, 1, 1, true);
        d.base.grant(0, 0, 1, -1, 1, false);
        Desk.is("owner", d.base.has(1, 0, 0, 0, -1, true), true);
        Desk.is("not there", d.base.has(1, 0, 1, 0, -1, false), false);
        Desk.is("the column", d.base.has(1, 1, 0, 0, 1, false), true);
        Desk.is("with option", d.base.has(1, 1, 0, 0, 1, true), true);
        Desk.is("another column", d.base.has(1, 1, 0, 0, 0, false), false);
        Desk.is("for all", d.base.has(1, 1, 0, 0, -1, false), false);
        Desk.is("by all", d.base.has(1, 1, 0, 1, 3, false), true);
        Desk.is("without option", d.base.has(1, 1, 0, 1, 3, true), false);
        d.base.join(1, 4, 1, false);
        d.base.join(0, 5, 0, false);
        Desk.is("by its circle", d.base.has(1, 4, 0, 0, 1, true), true);
        Desk.is("owns by its circle", d.base.has(1, 5, 0, 3, -1, true), true);
        Desk.is("known", d.base.isKnown(2, 4, 0), true);
        Desk.is("not known", d.base.isKnown(2, 6, 0), false);
        Desk.is("not there", d.base.isKnown(2, 0, 1), false);
        Desk.is("sees", d.base.sees(2, 4, 0), 2);
        Desk.is("owner sees", d.base.sees(2, 5, 0), 3);
        Desk.is("sees none", d.base.sees(2, 6, 0), 0);
        Desk.is("sees none that are not there", d.base.sees(2, 0, 1), 0);
        d.base.grant(0, 0, 0, 3, 6, false);
        Desk.is("knows it by a column that it has not", d.base.isKnown(2, 6, 0), true);
        Desk.is("but sees none", d.base.sees(2, 6, 0), 0);
    }

    private static void revoke() {
        Desk d = new Desk();
        Desk.is("no such", d.base.revoke(0, 0, 0, -1, 1, 1), -9);
        d.base.make(0, 0, 2);
        d.base.grant(0, 0, 0, -1, 1, true);
        d.base.grant(1, 0, 0, -1, 2, true);
        d.base.grant(2, 0, 0, 1, 3, false);
        d.base.grant(1, 0, 0, 0, 3, false);
        Desk.is("given by another one", d.base.revoke(0, 0, 0, -1, 2, 1), -9);
        Desk.is("another column", d.base.revoke(0, 0, 0, 0, 1, 1), -9);
        Desk.is("another right", d.base.revoke(0, 0, 1, -1, 1, 1), -9);
        Desk.is("others would go", d.base.revoke(1, 0, 0, -1, 2, 0), -9);
        Desk.is("nothing went", d.base.house(5), 4);
        Desk.is("none would go", d.base.revoke(2, 0, 0, 1, 3, 0), 1);
        d.base.grant(2, 0, 0, 1, 3, false);
        Desk.is("the option alone", d.base.revoke(1, 0, 0, -1, 2, 2), 1);
        Desk.is("it stays without", d.base.grants(0, 0), "0.*:0>1! 0.*:1>2 0.0:1>3");
        Desk.is("no option any more", d.base.revoke(1, 0, 0, -1, 2, 2), -9);
        Desk.is("all that hung on it", d.base.revoke(0, 0, 0, -1, 1, 1), 3);
        Desk.is("none", d.base.grants(0, 0), "");
    }

    private static void rings() {
        Desk d = new Desk();
        d.base.make(0, 0, 2);
        d.base.grant(0, 0, 0, -1, 1, true);
        d.base.grant(1, 0, 0, -1, 2, true);
        d.base.grant(2, 0, 0, -1, 1, true);
        Desk.is("a ring does not hold itself", d.base.revoke(0, 0, 0, -1, 1, 1), 3);
        d.base.grant(0, 0, 0, -1, 1, true);
        d.base.grant(0, 0, 0, -1, 2, true);
        d.base.grant(1, 0, 0, 0, 3, false);
        d.base.join(1, 5, 1, false);
        d.base.act(2, 5);
        Desk.is("by its circle", d.base.grant(2, 0, 0, 1, 4, true), 4);
        d.base.act(2, 4);
        d.base.grant(2, 0, 0, 1, 1, true);
        Desk.is("grants", d.base.grants(0, 0), "0.*:0>1! 0.*:0>2! 0.0:1>3 0.1:4>1! 0.1:5>4!");
        Desk.is("by a column that comes back", d.base.revoke(0, 0, 0, -1, 1, 0), -9);
        Desk.is("all of it", d.base.revoke(0, 0, 0, -1, 1, 1), 4);
        Desk.is("the other one stays", d.base.grants(0, 0), "0.*:0>2!");
        d.base.act(2, 2);
        d.base.grant(2, 0, 0, -1, 1, true);
        d.base.grant(0, 0, 0, -1, 1, true);
        d.base.grant(1, 0, 0, -1, 3, false);
        Desk.is("a second ground", d.base.revoke(0, 0, 0, -1, 1, 0), 1);
        Desk.is("holds it", d.base.grants(0, 0), "0.*:0>2! 0.*:1>3 0.*:2>1!");
        Desk.is("without that", d.base.revoke(2, 0, 0, -1, 1, 1), 2);
    }

    public static void main(String[] args) {
        grant();
        fit();
        full();
        has();
        revoke();
        rings();
        Desk.end("RightsTest");
    }
}
