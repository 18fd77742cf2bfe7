/** What is at most so many, full and one more than full; what is empty; and the first of what is more. */
public final class LimitsTest {
    private static final String STATE = "IllegalStateException";

    /** A row of words, again and again. */
    private static String times(int many, String words) {
        return "x".repeat(many).replace("x", " " + words);
    }

    /** "at most 60 TOKENS (empty at first)": how many are typed, and what one more does. */
    private static void tokens() {
        Desk d = new Desk();
        Desk.is("empty at first", d.base.typed(0), "");
        Desk.is("none typed", d.base.say(0, -1, -1, -1, -1, -1), 0);
        for (int i = 1; i <= 11; i++) {
            Desk.is("five more", d.base.say(0, 100, 101, 102, 103, 104), 5 * i);
        }
        d.base.say(0, 0, -1, -1, -1, -1);
        d.thrown("five more than 56", STATE, () -> d.base.say(0, 1, 2, 3, 4, 5));
        Desk.is("none of the five came", d.base.wipe(0, 1), 55);
        Desk.is("the last five", d.base.say(0, 1, 2, 3, 4, 5), 60);
        Desk.is("none more", d.base.say(0, -1, -1, -1, -1, -1), 60);
        d.thrown("one more than 60", STATE, () -> d.base.say(0, -1, -1, 7, -1, -1));
        d.thrown("five more than 60", STATE, () -> d.base.say(0, 7, 7, 7, 7, 7));
        Desk.is("the last place", d.base.token(0, 59), 5);
        Desk.is("put at the last place", d.base.put(0, 59, 6), 5);
        Desk.isRaised("no place 60", "IndexOutOfBoundsException", () -> d.base.token(0, 60));
        Desk.isRaised("no put at 60", "IndexOutOfBoundsException", () -> d.base.put(0, 60, 6));
        Desk.is("other SHEETS are not full", d.base.say(1, 7, 7, 7, 7, 7), 5);
        Desk.is("one goes", d.base.wipe(0, 1), 59);
        Desk.is("and one comes", d.base.say(0, 8, -1, -1, -1, -1), 60);
        Desk.is("all but one go", d.base.wipe(0, 59), 1);
        Desk.is("the first one is left", d.base.typed(0), "0");
        Desk.is("all go, if there are fewer", d.base.wipe(0, 2), 0);
        Desk.is("and none are left to go", d.base.wipe(0, 1), 0);
    }

    /** A SAMPLE comes in the place of what is TYPED, also of 60. */
    private static void sampleOnFull() {
        Desk d = new Desk();
        d.type(0, times(60, "1").substring(1));
        Desk.is("60 are typed", d.base.wipe(0, 1), 59);
        Desk.is("the shortest", d.base.sample(0, 0, 0, 0), 4);
        Desk.is("alone", d.base.typed(0), "select * from T0");
        Desk.is("room for 56", d.base.say(0, 3, 7, 37, 8, 9), 9);
    }

    /** A text of 60 TOKENS reads as any other, in each FORM. */
    private static void longest() {
        Desk d = new Desk();
        d.base.make(0, 0, 1);
        d.insert(0, 0, "1");
        String sum = "c0" + times(28, "+ c0");
        String query = "select - " + sum + " from T0";
        Desk.is("60", query.split(" ").length, 61);
        Desk.isRaised("61 can not be typed", STATE, () -> d.type(0, query));
        String shorter = "select " + sum + " from T0";
        d.type(0, shorter);
        Desk.is("a query of 60", d.base.run(0, 0), 1);
        Desk.is("its sum", d.base.answer(0), "29");
        Desk.is("a VIEW of it", d.base.view(0, 0, 0, true), 1);
        Desk.is("its TEXT", d.base.text(0, 4), shorter);
        Desk.is("what it tells", d.told(0, "select * from V0"), "29");
        d.type(0, "- p" + times(29, "+ p"));
        Desk.is("a FUNCTION of 60", d.base.function(0, 0, 0, true), 60);
        Desk.is("what it tells", d.base.call(0, 0, 0, 3), 84);
        d.type(0, "not c0 in ( 1" + times(27, ", 0") + " )");
        Desk.is("a POLICY of 60", d.base.policy(0, 0, 0, 0, 2, 1), 1);
        Desk.is("its TEXT", d.base.policyText(0, 0, 0).length(), 4 + 13 + 27 * 4 + 2);
        d.type(0, "delete T0 where not c0 = 1" + times(12, "or c0 = 2") + " or 0 = - 1");
        Desk.is("a delete of 60", d.base.typed(0).split(" ").length, 60);
        Desk.is("it runs", d.base.run(0, 0), 0);
    }

    /** "at most 8 ROWS"; ERROR 6 FULL, if there are 8 ROWS already (BARRED goes ahead). */
    private static void rows() {
        Desk d = new Desk();
        d.base.make(0, 0, 1);
        d.base.make(0, 3, 4);
        Desk.is("no ROWS at first", d.base.ofObject(0, 0, 3), 0);
        for (int i = 0; i < 8; i++) {
            Desk.is("the ROW " + i, d.insert(0, 0, "" + i), 1);
        }
        Desk.is("eight", d.base.text(0, 0), "0:0;1:1;2:2;3:3;4:4;5:5;6:6;7:7");
        String before = d.base.text(0, 0);
        int version = d.base.house(0);
        Desk.is("a ninth", d.insert(0, 0, "8"), -16);
        Desk.is("nothing changed", d.base.text(0, 0) + d.base.ofObject(0, 0, 4), before + 8);
        Desk.is("nor VERSION", d.base.house(0), version);
        Desk.is("no REFUSED", d.base.house(1), 0);
        Desk.is("another TABLE is not full", d.insert(0, 3, "1"), 1);
        d.base.secure(0, 0, 2);
        Desk.is("BARRED goes ahead", d.insert(0, 0, "8"), -15);
        d.base.secure(0, 0, 0);
        Desk.is("all are asked", d.told(0, "select * from T0"), "0;1;2;3;4;5;6;7");
        Desk.is("all change", d.run(0, "update T0 set c0 = c0 + 1"), 8);
        Desk.is("the last one goes", d.run(0, "delete T0 where c0 = 8"), 1);
        Desk.is("one more", d.insert(0, 0, "9"), 1);
        Desk.is("with the next NUMBER", d.base.text(0, 0).endsWith("6:7;8:9"), true);
        Desk.is("full again", d.insert(0, 0, "9"), -16);
        Desk.is("all go", d.run(0, "delete T0"), 8);
        Desk.is("none is left", d.base.text(0, 0), "");
        Desk.is("none to go", d.run(0, "delete T0"), 0);
        Desk.is("none to change", d.run(0, "update T0 set c0 = 1"), 0);
        Desk.is("none to tell", d.run(0, "select * from T0"), 0);
    }

    /** ROWS of a VIEW: "but the first 12 of them alone"; those of another query are not so few. */
    private static void rowsOfViews() {
        Desk d = new Desk();
        d.base.make(0, 0, 1);
        d.base.make(0, 1, 1);
        for (int i = 1; i <= 8; i++) {
            d.insert(0, 0, "" + (9 - i));
        }
        d.insert(0, 1, "50");
        d.view(0, 0, "select c0 , b c0 from T0 , T1", true);
        Desk.is("eight", d.told(0, "select count ( * ) from V0"), "8");
        d.insert(0, 1, "40");
        d.run(0, "delete T0 where c0 in ( 7 , 8 )");
        Desk.is("twelve", d.told(0, "select count ( * ) from V0"), "12");
        Desk.is("the last one of them", d.told(0, "select * from V0 where c0 = 6"), "6,40;6,50");
        d.insert(0, 0, "null");
        Desk.is("fourteen without a VIEW", d.told(0, "select count ( * ) from T0 , T1"), "14");
        Desk.is("twelve of fourteen", d.told(0, "select count ( * ) from V0"), "12");
        Desk.is("the first ones", d.told(0, "select * from V0 where c0 is null or 5 <= c0"), "-,40;-,50;5,40;5,50");
        d.view(0, 1, "select * from T0 , T1", true);
        Desk.is("the same of *", d.told(0, "select max ( c0 ) from V1"), "5");
        d.view(0, 2, "select distinct c0 from T0 , T1", true);
        Desk.is("distinct ahead of that", d.told(0, "select * from V2"), "-;1;2;3;4;5;6");
        d.view(0, 3, "select a c0 from V0 , V0", true);
        Desk.is("of 144", d.told(0, "select count ( * ) from V3"), "12");
        Desk.is("the first ones of 144", d.told(0, "select distinct c0 from V3"), "-");
        Desk.is("144 are told", d.run(0, "select a c0 , b c1 from V0 , V1"), 144);
        Desk.is("all of them", d.base.answer(0).split(";").length, 144);
        Desk.is("as the result tells", d.base.result(0, 1), 144);
        Desk.is("the last one", d.base.value(0, 143, 0) * 100 + d.base.value(0, 143, 1), 550);
        Desk.isRaised("none behind it", "IndexOutOfBoundsException", () -> d.base.value(0, 144, 0));
        Desk.is("144 in a GROUP", d.told(0, "select count ( * ) , sum ( b c0 ) from V0 , V0"), "144,360");
    }

    /** Sixty-four ROWS of two TABLES, sixteen COLUMNS of four each: eight are told. */
    private static void widest() {
        Desk d = new Desk();
        d.base.make(0, 0, 4);
        d.base.make(0, 1, 4);
        for (int i = 0; i < 8; i++) {
            d.insert(0, 0, "" + i, "1", "2", "3");
            d.insert(0, 1, "" + i, "5", "6", "7");
        }
        Desk.is("rows", d.run(0, "select * from T0 , T1"), 64);
        Desk.is("columns", d.base.result(0, 2), 8);
        Desk.is("the last column", d.base.value(0, 63, 7), 7);
        Desk.isRaised("none behind it", "IndexOutOfBoundsException", () -> d.base.value(0, 63, 8));
        Desk.is("the last row", d.base.answer(0).endsWith(";7,1,2,3,7,5,6,7"), true);
        Desk.is("of a VIEW the first four alone", d.view(0, 0, "select * from T0 , T1", true), 4);
        Desk.is("seen", d.base.sees(0, 0, 4), 15);
        Desk.is("they are those of a", d.told(0, "select distinct c1 , c2 , c3 from V0"), "1,2,3");
        Desk.is("the other way round", d.view(0, 1, "select * from T1 , T0", true), 4);
        Desk.is("they are those of a", d.told(0, "select distinct c1 , c2 , c3 from V1"), "5,6,7");
        Desk.is("two VIEWS", d.run(0, "select * from V0 , V1"), 144);
        Desk.is("of eight COLUMNS", d.base.result(0, 2), 8);
        // The ROWS of a VIEW are those of its query, which differ in more than four COLUMNS.
        d.view(0, 3, "select distinct * from T0 , T1", true);
        Desk.is("ROWS of its query", d.told(0, "select c0 , count ( * ) from V3 group c0"), "0,8;1,4");
        d.base.make(0, 2, 3);
        d.insert(0, 2, "8", "9", "null");
        Desk.is("three and one", d.view(0, 2, "select * from T2 , T0", true), 4);
        Desk.is("first those of a, then of b", d.told(0, "select * from V2 where c3 = 0"), "8,9,-,0");
        Desk.is("no more of b", d.fault(0, "select b c0 from V2"), "2@1");
    }

    /** A VIEW has 1 to 4 COLUMNS, a TABLE too: one more is none. */
    private static void columns() {
        for (int many = 1; many <= 4; many++) {
            Desk d = new Desk();
            Desk.is("a TABLE of " + many, d.base.make(0, 0, many), 1);
            Desk.is("seen", d.base.sees(0, 0, 0), (1 << many) - 1);
            Desk.is("the last one", d.fault(0, "select c" + (many - 1) + " from T0"), "0@-1");
            Desk.is("the last one to insert", d.run(0, "insert T0 c" + (many - 1) + " = 7"), 1);
            Desk.is("the last one in a POLICY", d.fault(3, "c" + (many - 1) + " = 7"), "0@-1");
            Desk.is("so", d.base.text(0, 0), "0:" + "-,".repeat(many - 1) + "7");
            Desk.is("a VIEW of all", d.view(0, 0, "select c0" + times(many - 1, ", c0") + " from T0", true), many);
            Desk.is("the last one of the VIEW", d.fault(0, "select c" + (many - 1) + " from V0"), "0@-1");
            if (many < 4) {
                Desk.is("the next one", d.fault(0, "select c" + many + " from T0"), "2@1");
                Desk.is("the next one to insert", d.fault(0, "insert T0 c" + many + " = 7"), "2@2");
                Desk.is("the next one to update", d.fault(0, "update T0 set c" + many + " = 7"), "2@3");
                Desk.is("the next one in a POLICY", d.fault(3, "c" + many + " = 7"), "2@0");
                Desk.is("the next one of the VIEW", d.fault(0, "select c" + many + " from V0"), "2@1");
            }
        }
    }

    /** "at most four expr (the comma ahead of a fifth one can not stand); of C = expr likewise". */
    private static void exprs() {
        Desk d = new Desk();
        d.base.make(0, 0, 4);
        Desk.is("four", d.fault(0, "select 1 , 2 , 3 , 4 from T0"), "0@-1");
        Desk.is("five", d.fault(0, "select 1 , 2 , 3 , 4 , 5 from T0"), "1@8");
        Desk.is("four distinct", d.fault(0, "select distinct 1 , 2 , 3 , 4 from T0"), "0@-1");
        Desk.is("five distinct", d.fault(0, "select distinct 1 , 2 , 3 , 4 , 5 from T0"), "1@9");
        Desk.is("four of a VIEW", d.fault(1, "select 1 , 2 , 3 , 4 from T0"), "0@-1");
        Desk.is("five of a VIEW", d.fault(1, "select 1 , 2 , 3 , 4 , 5 from T0"), "1@8");
        String inner = "select 1 from T0 where exists ( select 1 , 2 , 3 , 4 ";
        Desk.is("four of a query within", d.fault(0, inner + "from T0 )"), "0@-1");
        Desk.is("five of a query within", d.fault(0, inner + ", 5 from T0 )"), "1@15");
        Desk.is("four and more around", d.fault(0, "select 1 , 2 , ( select 1 , 2 , 3 , 4 from T0 ) , 4 from T0"), "4@6");
        Desk.is("four to insert", d.fault(0, "insert T0 c0 = 1 , c1 = 1 , c2 = 1 , c3 = 1"), "0@-1");
        Desk.is("five to insert", d.fault(0, "insert T0 c0 = 1 , c1 = 1 , c2 = 1 , c3 = 1 , c0 = 1"), "1@17");
        Desk.is("four to update", d.fault(0, "update T0 set c0 = 1 , c1 = 1 , c2 = 1 , c3 = 1"), "0@-1");
        Desk.is("five to update", d.fault(0, "update T0 set c0 = 1 , c1 = 1 , c2 = 1 , c3 = 1 , c0 = 1"), "1@18");
        Desk.is("in takes more", d.fault(3, "c0 in ( 1 , 2 , 3 , 4 , 5 , 6 , 7 )"), "0@-1");
    }

    /** "SAVEPOINTS of a transaction, at most 3". */
    private static void savepoints() {
        Desk d = new Desk();
        d.base.begin(0);
        d.base.begin(1);
        Desk.is("none at first", d.base.ofSession(0, 2), 0);
        for (int i = 1; i <= 3; i++) {
            Desk.is("the next one", d.base.savepoint(0), i);
            Desk.is("so many", d.base.ofSession(0, 2), i);
        }
        d.refused("a fourth", () -> d.base.savepoint(0));
        Desk.is("another SESSION has its own", d.base.savepoint(1), 1);
        Desk.is("back to the second", d.base.backTo(0, 1), 2);
        Desk.is("a third again", d.base.savepoint(0), 3);
        d.refused("a fourth again", () -> d.base.savepoint(0));
        Desk.is("it had three", d.base.rollBack(0), 3);
        d.base.begin(0);
        Desk.is("the next transaction has none", d.base.ofSession(0, 2), 0);
        Desk.is("and room for three", d.base.savepoint(0) + d.base.savepoint(0) + d.base.savepoint(0), 6);
    }

    /** "if there are 40 GRANTS of all OBJECTS, and it would be one more (not if it is REFUSED)". */
    private static void grants() {
        Desk d = new Desk();
        d.base.make(0, 0, 4);
        d.base.make(0, 1, 4);
        d.view(0, 0, "select * from T0", true);
        d.function(0, 0, "p", true);
        // Ten of T0, T1 and V0 each, seven of F0, two more of T0.
        for (int object : new int[] {0, 1, 4, 8}) {
            for (int i = 0; i < (object == 8 ? 7 : 10); i++) {
                int right = object == 8 ? 4 : 0;
                int column = i < 7 ? -1 : 2;
                Desk.is("a GRANT", d.base.grant(0, object, right, column, i % 7 + 1, object == 1), i + 1);
            }
        }
        d.base.grant(0, 0, 1, -1, 1, false);
        d.base.grant(0, 0, 1, -1, 2, false);
        Desk.is("39", d.base.house(5), 39);
        Desk.is("the fortieth", d.base.grant(0, 0, 2, -1, 1, false), 13);
        Desk.is("40", d.base.house(5), 40);
        d.thrown("one more", STATE, () -> d.base.grant(0, 0, 3, -1, 1, false));
        d.thrown("one more by another one", STATE, () -> d.base.grant(1, 1, 0, 3, 2, false));
        d.refused("one more that is REFUSED", () -> d.base.grant(1, 0, 3, -1, 2, false));
        d.refused("one more to itself", () -> d.base.grant(0, 0, 3, -1, 0, false));
        d.thrown("one more to no ACTOR", "IllegalArgumentException", () -> d.base.grant(0, 0, 3, -1, 8, false));
        d.thrown("one more of no OBJECT", "IndexOutOfBoundsException", () -> d.base.grant(0, 12, 3, -1, 1, false));
        Desk.is("a like one", d.base.grant(0, 0, 0, -1, 1, false), 13);
        Desk.is("a like one gets OPTION", d.base.grant(0, 0, 0, -1, 1, true), 13);
        Desk.is("it has it", d.base.grants(0, 0).startsWith("0.*:0>1! 0.*:0>2 "), true);
        d.base.begin(0);
        d.thrown("one more in an OWN copy", STATE, () -> d.base.grant(0, 0, 3, -1, 1, false));
        Desk.is("there one goes", d.base.revoke(0, 4, 0, 2, 1, 0), 1);
        Desk.is("and one comes", d.base.grant(0, 0, 3, -1, 1, false), 14);
        d.thrown("one more there", STATE, () -> d.base.grant(0, 0, 3, -1, 2, false));
        d.thrown("one more that all share", STATE, () -> d.base.grant(1, 1, 0, 3, 2, false));
        d.base.rollBack(0);
        Desk.is("with an OBJECT its GRANTS go", d.base.drop(0, 8), 7);
        Desk.is("and there is room", d.base.grant(0, 0, 3, -1, 1, false), 14);
    }

    /** 12 OBJECTS, 4 POLICIES of each TABLE, 28 MEMBERSHIPS: all that there can be. */
    private static void all() {
        Desk d = new Desk();
        for (int i = 0; i < 4; i++) {
            Desk.is("a TABLE", d.base.make(0, i, 1), 3 * i + 1);
            Desk.is("a VIEW", d.view(0, i, i == 0 ? "select * from T0" : "select * from V" + (i - 1), true), 1);
            Desk.is("a FUNCTION", d.function(0, i, i == 0 ? "p + 1" : "F" + (i - 1) + " ( p ) + 1", true), i == 0 ? 3 : 6);
        }
        Desk.is("all OBJECTS", d.base.house(4), 12);
        d.insert(0, 0, "7");
        Desk.is("the last VIEW", d.told(0, "select F3 ( c0 ) from V3"), "11");
        for (int slot = 0; slot < 16; slot++) {
            Desk.is("a POLICY", d.policy(0, slot / 4, slot % 4, "c0 = " + slot, slot % 4, slot % 8), slot % 4 + 1);
        }
        Desk.is("all POLICIES", d.base.house(8), 16);
        Desk.is("in the place of one", d.policy(0, 3, 3, "c0 = 16", 0, 0), 4);
        Desk.is("the last one", d.base.policyText(0, 3, 3), "0,0:c0 = 16");
        Desk.is("all of a TABLE", d.base.ofObject(0, 3, 6), 15);
    }

    private static void memberships() {
        Desk d = new Desk();
        int many = 0;
        StringBuilder due = new StringBuilder();
        for (int member = 0; member < 8; member++) {
            for (int group = member + 1; group < 8; group++) {
                many++;
                d.base.act(0, group);
                Desk.is("a MEMBERSHIP", d.base.join(0, member, group, group == 7), many);
                due.append(due.length() == 0 ? "" : " ").append(member).append('>').append(group);
                due.append(group == 7 ? "!" : "");
            }
        }
        Desk.is("all that there can be", d.base.house(6), 28);
        Desk.is("by the MEMBERS, then by those of which they are", d.base.members(0), due.toString());
        for (int actor = 0; actor < 8; actor++) {
            Desk.is("circle", d.base.circle(0, actor), 256 - (1 << actor));
        }
        for (int group = 0; group < 8; group++) {
            d.base.act(0, group);
            for (int member = group; member < 8; member++) {
                Desk.is("none more", d.base.join(0, member, group, true), -9);
            }
        }
    }

    public static void main(String[] args) {
        tokens();
        sampleOnFull();
        longest();
        rows();
        rowsOfViews();
        widest();
        columns();
        exprs();
        savepoints();
        grants();
        all();
        memberships();
        Desk.end("LimitsTest");
    }
}
