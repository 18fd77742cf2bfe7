/** Sections 1 and 2: CIRCLES, who LEADS, what FITS, who HAS what, what STANDS, what is KNOWN and SEEN. */
public final class StandingTest {

    /** "itself, all of which it is a MEMBER, all of which these are MEMBERS, and so on". */
    private static void circles() {
        for (int way = 0; way < 2; way++) {
            Desk d = new Desk();
            for (int i = 0; i < 7; i++) {
                int member = way == 0 ? i : 7 - i;
                int group = way == 0 ? i + 1 : 6 - i;
                d.base.act(0, group);
                Desk.is("a chain", d.base.join(0, member, group, false), i + 1);
            }
            for (int actor = 0; actor < 8; actor++) {
                Desk.is("circle of " + actor, d.base.circle(0, actor), way == 0 ? 256 - (1 << actor) : (2 << actor) - 1);
            }
            int first = way == 0 ? 0 : 7;
            int last = 7 - first;
            d.base.act(0, last);
            Desk.is("a ring of eight", d.base.join(0, last, last, false), -9);
            d.base.act(0, first);
            Desk.is("a ring of eight", d.base.join(0, last, first, false), -9);
            Desk.is("a part of the chain again", d.base.join(0, first, first, false), -9);
            d.base.act(0, 4);
            Desk.is("the chain is cut", d.base.leave(0, 4, way == 0 ? 5 : 3), 0);
            Desk.is("circle of the first one", d.base.circle(0, first), way == 0 ? 31 : 240);
            Desk.is("circle of 4", d.base.circle(0, 4), 16);
            d.base.act(0, first);
            Desk.is("no ring now", d.base.join(0, last, first, false), 7);
            Desk.is("circle of the last one", d.base.circle(0, last), way == 0 ? 128 + 31 : 1 + 240);
        }
    }

    /** "Who does it has to LEAD that: be it, or have one in its CIRCLE that is a MEMBER of it with ADMIN". */
    private static void leaders() {
        Desk d = new Desk();
        d.base.act(2, 3);
        Desk.is("be it", d.base.join(0, 1, 0, true), 1);
        Desk.is("a MEMBER with ADMIN", d.base.join(1, 4, 0, false), 2);
        Desk.is("another one", d.base.join(2, 5, 0, false), -9);
        Desk.is("to 1", d.base.join(1, 3, 1, false), 3);
        Desk.is("with one in its CIRCLE that has ADMIN", d.base.join(2, 5, 0, false), 4);
        Desk.is("not of that one, without ADMIN", d.base.join(2, 5, 1, false), -9);
        Desk.is("ADMIN goes", d.base.join(0, 1, 0, false), 4);
        Desk.is("not any more", d.base.join(2, 6, 0, false), -9);
        Desk.is("nor that one", d.base.join(1, 6, 0, false), -9);
        Desk.is("ADMIN comes", d.base.join(0, 4, 0, true), 4);
        Desk.is("so", d.base.members(0), "1>0 3>1 4>0! 5>0");
        d.base.act(1, 4);
        Desk.is("ADMIN of another one", d.base.leave(1, 5, 0), 0);
        Desk.is("its own", d.base.leave(1, 4, 0), 0);
        Desk.is("which is gone then", d.base.leave(1, 1, 0), -9);
        d.base.act(1, 1);
        Desk.is("the MEMBER itself may leave", d.base.leave(1, 1, 0), 0);
        d.base.act(1, 0);
        Desk.is("neither the MEMBER nor who LEADS", d.base.leave(1, 3, 1), -9);
        d.base.act(1, 7);
        d.base.join(2, 7, 3, false);
        Desk.is("with the MEMBER in its CIRCLE alone", d.base.leave(1, 3, 1), -9);
        Desk.is("the MEMBER", d.base.leave(2, 3, 1), 0);
    }

    /** Each ACTOR with ADMIN of each other one LEADS that one, and no other one. */
    private static void leadersOfAll() {
        for (int member = 0; member < 8; member++) {
            for (int group = 0; group < 8; group++) {
                Desk d = new Desk();
                d.base.act(0, group);
                d.base.act(1, member);
                if (member == group) {
                    Desk.is("in its own CIRCLE", d.base.join(0, member, group, true), -9);
                    continue;
                }
                Desk.is("ADMIN", d.base.join(0, member, group, true), 1);
                Desk.is("text", d.base.members(0), member + ">" + group + "!");
                int many = 1;
                for (int other = 0; other < 8; other++) {
                    boolean isNew = other != member && other != group;
                    many += isNew ? 1 : 0;
                    Desk.is("who LEADS", d.base.join(1, other, group, false), other == group ? -9 : many);
                    if (other == member) {
                        // It lost ADMIN by that.
                        Desk.is("not any more", d.base.join(1, other, group, true), -9);
                        Desk.is("again", d.base.join(0, other, group, true), many);
                    } else if (isNew) {
                        Desk.is("not of others", d.base.join(1, group, other, false), -9);
                    }
                }
                Desk.is("it leaves", d.base.leave(1, member, group), 0);
                Desk.is("all others are left", d.base.house(6), 6);
            }
        }
    }

    /** Each GRANT that there can be: what it tells, that it is ground for a like one, and that it goes. */
    private static void each() {
        for (int object = 0; object < 12; object++) {
            for (int right = 0; right < 5; right++) {
                for (int giver = 0; giver < 8; giver++) {
                    each(object, right, giver);
                }
            }
        }
    }

    private static void each(int object, int right, int giver) {
        Desk d = new Desk();
        d.base.act(0, giver);
        d.base.make(0, object < 4 ? object : 0, 1);
        if (object >= 8) {
            d.function(0, object - 8, "p", true);
        } else if (object >= 4) {
            d.view(0, object - 4, "select * from T0", true);
        }
        for (int column = -1; column < 4; column++) {
            boolean isFit = object < 4 ? right < 3 || right == 3 && column == -1
                    : object < 8 ? right == 0 : right == 4 && column == -1;
            for (int getter = 0; getter < 8; getter++) {
                String what = right + "." + (column < 0 ? "*" : "" + column) + ":";
                String text = what + giver + ">" + getter;
                int third = (getter + 1) % 8 == giver ? (getter + 2) % 8 : (getter + 1) % 8;
                if (!isFit || getter == giver) {
                    Desk.is(object + " " + text, d.base.grant(0, object, right, column, getter, true), -9);
                    continue;
                }
                Desk.is(object + " " + text, d.base.grant(0, object, right, column, getter, true), 1);
                Desk.is("its text", d.base.grants(1, object), text + "!");
                d.base.act(1, getter);
                Desk.is(text + " as a ground", d.base.grant(1, object, right, column, third, false), 2);
                String next = what + getter + ">" + third;
                boolean isFirst = giver < getter;
                Desk.is("in order", d.base.grants(1, object), isFirst ? text + "! " + next : next + " " + text + "!");
                Desk.is(text + " goes with it", d.base.revoke(0, object, right, column, getter, 1), 2);
            }
        }
    }

    /** "Drops an OBJECT, with its GRANTS and POLICIES", and all its ROWS: another one starts anew. */
    private static void dropsAll() {
        for (int table = 0; table < 4; table++) {
            Desk d = new Desk();
            d.base.make(0, table, 4);
            d.base.make(0, 3 - table, 1);
            d.insert(0, 3 - table, "5");
            d.base.grant(0, 3 - table, 3, -1, 1, false);
            d.policy(0, 3 - table, 0, "c0 = 1", 0, 1);
            for (int i = 0; i < 8; i++) {
                d.insert(0, table, "1", "2", "3", "4");
            }
            for (int i = 0; i < 4; i++) {
                d.policy(0, table, i, "c3 = 1", i, 7);
                d.base.grant(0, table, i, -1, i + 1, true);
            }
            d.base.secure(0, table, 2);
            Desk.is("its GRANTS", d.base.drop(0, table), 4);
            for (int what = 0; what <= 7; what++) {
                Desk.is("not there", d.base.ofObject(0, table, what), -1);
            }
            Desk.is("no ROWS", d.base.text(0, table), "");
            Desk.is("nor its GRANTS", d.base.grants(0, table), "");
            for (int i = 0; i < 4; i++) {
                Desk.is("nor its POLICIES", d.base.policyText(0, table, i), "");
            }
            d.base.make(1, table, 1);
            int[] dues = {1, 0, 1, 0, 0, 0, 0, -1};
            for (int what = 0; what <= 7; what++) {
                Desk.is("made anew, " + what, d.base.ofObject(0, table, what), dues[what]);
            }
            Desk.is("no ROWS of the one before", d.base.text(0, table), "");
            d.insert(1, table, "6");
            Desk.is("NUMBERS from 0 on", d.base.text(0, table), "0:6");
            Desk.is("the other TABLE stays", d.base.text(0, 3 - table) + d.base.grants(0, 3 - table)
                    + d.base.policyText(0, 3 - table, 0), "0:53.*:0>10,1:c0 = 1");
        }
    }

    /** "a COLUMN other than NONE fits RIGHTS 0 to 2 alone (also one that the OBJECT has not)". */
    private static void fits() {
        Desk d = new Desk();
        d.base.make(0, 0, 1);
        d.view(0, 0, "select c0 from T0", true);
        d.function(0, 0, "p", true);
        for (int column = -1; column < 4; column++) {
            for (int right = 0; right < 5; right++) {
                boolean isForAll = column == -1;
                boolean[] dues = {right < 3 || right == 3 && isForAll, right == 0, right == 4 && isForAll};
                for (int i = 0; i < 3; i++) {
                    String what = "OBJECT " + 4 * i + ", RIGHT " + right + ", COLUMN " + column;
                    Desk.is(what, d.base.has(0, 0, 4 * i, right, column, true), dues[i]);
                    Desk.is(what + ", not there", d.base.has(0, 0, 4 * i + 1, right, column, false), false);
                    Desk.is(what + ", granted", d.base.grant(0, 4 * i, right, column, 1, false) > 0, dues[i]);
                    Desk.is(what + ", had", d.base.has(0, 1, 4 * i, right, column, false), dues[i]);
                    d.base.revoke(0, 4 * i, right, column, 1, 0);
                }
            }
        }
    }

    /** "No two are alike but for OPTION": each other difference makes another one. */
    private static void alike() {
        Desk d = new Desk();
        d.base.make(0, 0, 1);
        d.base.make(0, 1, 1);
        Desk.is("one", d.base.grant(0, 0, 0, -1, 1, false), 1);
        Desk.is("a like one", d.base.grant(0, 0, 0, -1, 1, false), 1);
        Desk.is("with OPTION", d.base.grant(0, 0, 0, -1, 1, true), 1);
        Desk.is("which stays", d.base.grant(0, 0, 0, -1, 1, false), 1);
        Desk.is("text", d.base.grants(0, 0), "0.*:0>1!");
        Desk.is("of another OBJECT", d.base.grant(0, 1, 0, -1, 1, false), 1);
        Desk.is("of another RIGHT", d.base.grant(0, 0, 1, -1, 1, false), 2);
        Desk.is("of a COLUMN", d.base.grant(0, 0, 0, 0, 1, false), 3);
        Desk.is("of another COLUMN", d.base.grant(0, 0, 0, 3, 1, false), 4);
        Desk.is("to another ACTOR", d.base.grant(0, 0, 0, -1, 2, false), 5);
        Desk.is("by another ACTOR", d.base.grant(1, 0, 0, -1, 2, false), 6);
        Desk.is("by RIGHTS, then COLUMNS (NONE first), who GAVE, who GOT it", d.base.grants(0, 0),
                "0.*:0>1! 0.*:0>2 0.*:1>2 0.0:0>1 0.3:0>1 1.*:0>1");
        Desk.is("the other OBJECT", d.base.grants(0, 1), "0.*:0>1");
    }

    /** "NONE: all, also those that come". */
    private static void thoseThatCome() {
        Desk d = new Desk();
        d.base.make(0, 0, 1);
        d.view(0, 0, "select * from T0", true);
        d.base.grant(0, 4, 0, -1, 1, false);
        d.base.grant(0, 4, 0, 0, 2, false);
        d.base.grant(0, 4, 0, 2, 3, false);
        Desk.is("one COLUMN", d.base.sees(0, 1, 4) * 100 + d.base.sees(0, 2, 4) * 10 + d.base.sees(0, 3, 4), 110);
        d.base.drop(0, 0);
        Desk.is("BROKEN", d.base.sees(0, 1, 4) + d.base.sees(0, 2, 4) + d.base.sees(0, 3, 4), 0);
        d.base.make(0, 0, 3);
        Desk.is("all that came", d.base.sees(0, 1, 4), 7);
        Desk.is("none that came", d.base.sees(0, 2, 4), 1);
        Desk.is("the one that came", d.base.sees(0, 3, 4), 4);
    }

    /** "for that COLUMN or for NONE; for NONE: if it OWNS that, or one of its CIRCLE GOT it for NONE". */
    private static void had() {
        Desk d = new Desk();
        d.base.make(0, 0, 4);
        for (int column = 0; column < 4; column++) {
            Desk.is("not yet", d.base.has(0, 1, 0, 2, column, false), false);
            d.base.grant(0, 0, 2, column, 1, true);
            Desk.is("that one", d.base.has(0, 1, 0, 2, column, true), true);
        }
        Desk.is("all four are not all", d.base.has(0, 1, 0, 2, -1, false), false);
        Desk.is("nor another RIGHT", d.base.has(0, 1, 0, 1, 0, false), false);
        d.base.grant(0, 0, 2, -1, 1, false);
        Desk.is("for NONE", d.base.has(0, 1, 0, 2, -1, false), true);
        Desk.is("without OPTION", d.base.has(0, 1, 0, 2, -1, true), false);
        Desk.is("with OPTION for one", d.base.has(0, 1, 0, 2, 3, true), true);
        d.base.grant(0, 0, 0, -1, 2, true);
        for (int column = -1; column < 4; column++) {
            Desk.is("for NONE is for each", d.base.has(0, 2, 0, 0, column, true), true);
        }
        d.base.join(2, 6, 2, false);
        d.base.act(1, 6);
        d.base.join(1, 7, 6, false);
        Desk.is("one of its CIRCLE", d.base.has(0, 7, 0, 0, 1, true), true);
        Desk.is("not the other way round", d.base.has(0, 6, 0, 2, 1, false), false);
        d.base.join(0, 5, 0, false);
        Desk.is("who OWNS it HAS all", d.base.has(0, 5, 0, 3, -1, true), true);
        Desk.is("it OWNS it by its CIRCLE", d.base.grant(0, 0, 3, -1, 5, false), 7);
        d.base.act(1, 5);
        Desk.is("and GIVES it", d.base.grant(1, 0, 3, -1, 6, true), 8);
    }

    /** "the OWNER's first, then those by these, and so on": a long chain, and what goes with its first one. */
    private static void chains() {
        for (int first = 1; first < 7; first++) {
            Desk d = new Desk();
            d.base.make(0, 0, 1);
            for (int i = 0; i < 7; i++) {
                d.base.act(1, i);
                Desk.is("a link", d.base.grant(1, 0, 0, -1, i + 1, true), i + 1);
            }
            d.base.act(1, first);
            Desk.is("RESTRICT", d.base.revoke(1, 0, 0, -1, first + 1, 0), first == 6 ? 1 : -9);
            if (first < 6) {
                Desk.is("all behind it", d.base.revoke(1, 0, 0, -1, first + 1, 1), 7 - first);
            }
            Desk.is("those ahead stay", d.base.house(5), first);
        }
        // Down, so that those behind stand first in the row of GRANTS.
        Desk d = new Desk();
        d.base.act(0, 7);
        d.base.make(0, 0, 1);
        for (int i = 7; i > 0; i--) {
            d.base.act(0, i);
            Desk.is("a link down", d.base.grant(0, 0, 0, -1, i - 1, true), 8 - i);
        }
        d.base.act(0, 7);
        Desk.is("the OPTION of the first one", d.base.revoke(0, 0, 0, -1, 6, 2), 6);
        Desk.is("is all that is left", d.base.grants(0, 0), "0.*:7>6");
    }

    /** A GRANT for NONE is ground for those of COLUMNS, one of a COLUMN for that one alone. */
    private static void grounds() {
        Desk d = new Desk();
        d.base.make(0, 0, 2);
        d.base.grant(0, 0, 0, -1, 1, true);
        d.base.grant(0, 0, 0, 1, 1, true);
        d.base.grant(1, 0, 0, 1, 2, false);
        d.base.grant(1, 0, 0, 0, 2, false);
        d.base.grant(1, 0, 0, -1, 2, false);
        Desk.is("two hang on NONE alone", d.base.revoke(0, 0, 0, -1, 1, 1), 3);
        Desk.is("one stands by its COLUMN", d.base.grants(0, 0), "0.1:0>1! 0.1:1>2");
        Desk.is("the OPTION of that", d.base.revoke(0, 0, 0, 1, 1, 2), 1);
        Desk.is("left", d.base.grants(0, 0), "0.1:0>1");
        d.base.grant(0, 0, 0, 1, 1, true);
        d.base.grant(0, 0, 0, -1, 1, true);
        d.base.grant(1, 0, 0, 1, 2, false);
        Desk.is("with two grounds RESTRICT takes one", d.base.revoke(0, 0, 0, 1, 1, 0), 1);
        Desk.is("and not the other one", d.base.revoke(0, 0, 0, -1, 1, 0), -9);
        Desk.is("by CASCADE both", d.base.revoke(0, 0, 0, -1, 1, 1), 2);
    }

    /** A GRANT is no ground for one of another OBJECT or another RIGHT, nor one without OPTION. */
    private static void noGrounds() {
        for (int object = 0; object < 2; object++) {
            for (int right = 0; right < 4; right++) {
                Desk d = new Desk();
                d.base.make(0, 0, 2);
                d.base.make(0, 1, 2);
                for (int i = 0; i < 8; i++) {
                    d.base.grant(0, i / 4, i % 4, -1, 1, i != object * 4 + right);
                }
                for (int i = 0; i < 8; i++) {
                    boolean isIt = i == object * 4 + right;
                    Desk.is("has", d.base.has(2, 1, i / 4, i % 4, -1, false), true);
                    Desk.is("has with OPTION", d.base.has(2, 1, i / 4, i % 4, -1, true), !isIt);
                    Desk.is("may give", d.base.grant(1, i / 4, i % 4, -1, 2, false) > 0, !isIt);
                }
                d.base.grant(0, object, right, -1, 1, true);
                Desk.is("may give then", d.base.grant(1, object, right, -1, 2, false), 8);
                Desk.is("one goes with it", d.base.revoke(0, object, right, -1, 1, 1), 2);
                Desk.is("no other one", d.base.house(5), 14);
                Desk.is("of its OBJECT", d.base.ofObject(0, object, 1), 6);
                Desk.is("it is had no more", d.base.has(2, 2, object, right, -1, false), false);
            }
        }
    }

    /** "GRANTS that do not STAND go, behind each call that changes the DATABASE": leave, own, revoke, drop. */
    private static void goings() {
        Desk d = new Desk();
        d.base.make(0, 0, 1);
        d.base.join(1, 2, 1, false);
        d.base.grant(0, 0, 0, -1, 1, true);
        d.base.grant(2, 0, 0, -1, 3, true);
        d.base.act(1, 3);
        d.base.grant(1, 0, 0, -1, 4, false);
        d.base.begin(0);
        d.base.act(2, 1);
        Desk.is("by leave in what all share", d.base.leave(2, 2, 1), 2);
        Desk.is("what all share", d.base.grants(1, 0), "0.*:0>1!");
        Desk.is("the copy keeps them", d.base.grants(0, 0), "0.*:0>1! 0.*:2>3! 0.*:3>4");
        Desk.is("by own in the copy", d.base.own(0, 0, 2), 1);
        Desk.is("those of the OWNER stay", d.base.grants(0, 0), "0.*:2>3! 0.*:3>4");
        d.base.rollBack(0);
        Desk.is("own to itself", d.base.own(0, 0, 0), 0);
        Desk.is("own to another one", d.base.own(0, 0, 5), 1);
        Desk.is("none is left", d.base.house(5), 0);
    }

    /** KNOWN: "that it OWNS, or of which it HAS some RIGHT for some COLUMN or NONE"; SEES. */
    private static void known() {
        int[][] rights = {{0, 0, -1}, {0, 0, 3}, {0, 1, -1}, {0, 1, 0}, {0, 2, -1}, {0, 2, 3}, {0, 3, -1},
            {4, 0, -1}, {4, 0, 3}, {8, 4, -1}};
        int[] seen = {3, 0, 0, 0, 0, 0, 0, 1, 0, 0};
        Desk d = new Desk();
        d.base.make(0, 0, 2);
        d.view(0, 0, "select c0 from T0", true);
        d.function(0, 0, "p", true);
        d.base.join(2, 3, 2, false);
        for (int i = 0; i < rights.length; i++) {
            int[] r = rights[i];
            Desk.is("not KNOWN", d.base.isKnown(0, 2, r[0]), false);
            d.base.grant(0, r[0], r[1], r[2], 2, false);
            Desk.is("KNOWN by the RIGHT " + r[1] + " for " + r[2], d.base.isKnown(0, 2, r[0]), true);
            Desk.is("KNOWN to a MEMBER", d.base.isKnown(0, 3, r[0]), true);
            if (r[0] < 8) {
                Desk.is("SEES by the RIGHT " + r[1] + " for " + r[2], d.base.sees(0, 3, r[0]), seen[i]);
            }
            d.base.revoke(0, r[0], r[1], r[2], 2, 0);
        }
        for (int object = 0; object < 12; object++) {
            Desk.is("its OWNER", d.base.isKnown(0, 0, object), object % 4 == 0);
            Desk.is("another one", d.base.isKnown(0, 1, object), false);
        }
        d.base.drop(0, 8);
        Desk.is("not there any more", d.base.isKnown(0, 0, 8), false);
    }

    /** The ways of revoke: 0 RESTRICT, 1 CASCADE, 2 the OPTION alone, with and without what hangs on it. */
    private static void ways() {
        for (int way = 0; way <= 2; way++) {
            Desk d = new Desk();
            d.base.make(0, 0, 1);
            d.base.grant(0, 0, 0, -1, 1, true);
            int[] alone = {1, 1, 0};
            Desk.is("nothing hangs on it, " + way, d.base.revoke(0, 0, 0, -1, 1, way), alone[way]);
            Desk.is("so", d.base.grants(0, 0), way == 2 ? "0.*:0>1" : "");
            d.base.grant(0, 0, 0, -1, 1, true);
            d.base.grant(1, 0, 0, -1, 2, true);
            d.base.grant(1, 0, 0, 0, 3, false);
            d.base.grant(2, 0, 0, 0, 4, false);
            int[] more = {-9, 4, 3};
            Desk.is("three hang on it, " + way, d.base.revoke(0, 0, 0, -1, 1, way), more[way]);
            Desk.is("left, " + way, d.base.house(5), way == 0 ? 4 : way == 1 ? 0 : 1);
        }
        Desk d = new Desk();
        d.base.make(0, 0, 1);
        d.base.grant(0, 0, 0, -1, 1, false);
        Desk.is("without OPTION, by 2", d.base.revoke(0, 0, 0, -1, 1, 2), -9);
        Desk.is("without OPTION, by 0", d.base.revoke(0, 0, 0, -1, 1, 0), 1);
        Desk.is("again", d.base.revoke(0, 0, 0, -1, 1, 1), -9);
    }

    public static void main(String[] args) {
        circles();
        leaders();
        leadersOfAll();
        fits();
        alike();
        each();
        dropsAll();
        thoseThatCome();
        had();
        chains();
        grounds();
        noGrounds();
        goings();
        known();
        ways();
        Desk.end("StandingTest");
    }
}
