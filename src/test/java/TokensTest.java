import java.util.ArrayList;
import java.util.Arrays;
import java.util.List;
import java.util.Set;
import java.util.TreeSet;

/**
 * Section 4: which TOKENS can stand behind a text, and which can not, of all that there are; how
 * texts end too early; and what stands inside one another, four deep and five deep.
 */
public final class TokensTest {
    private static final String EXPR = "N null me asker p A C a b outer - ( F count sum min max";
    private static final String CONJ = EXPR + " not [ exists member";
    private static final String SIGNS = "+ - *";

    /** What opens, what has to stand in it (an expr, or a cond), and what closes it. */
    private record Nest(String opens, boolean isCond, String closes) { }

    private static final List<Nest> IN_COND = List.of(new Nest("not", true, ""), new Nest("[", true, "]"),
            new Nest("1 in (", false, ")"), new Nest("1 not in ( 2 ,", false, ")"),
            new Nest("exists ( select 1 from T0 where", true, ")"), new Nest("exists ( select", false, "from T0 )"));
    private static final List<Nest> IN_EXPR = List.of(new Nest("(", false, ")"), new Nest("-", false, ""),
            new Nest("F0 (", false, ")"), new Nest("count (", false, ")"), new Nest("max (", false, ")"),
            new Nest("( select", false, "from T0 )"), new Nest("( select 1 from T0 where", true, ")"));

    private static Desk d = new Desk();
    private static int texts;

    /** The ERROR of a text, on a new object ahead of its 512th call. */
    private static String fault(int form, String text) {
        texts++;
        if (texts % 20 == 0) {
            d = new Desk();
        }
        return d.fault(form, text);
    }

    private static Set<Integer> tokens(String words) {
        Set<Integer> all = new TreeSet<>();
        for (String word : words.isEmpty() ? new String[0] : words.split(" ")) {
            int at = "C T V F A".indexOf(word);
            if (word.equals("N")) {
                for (int i = 100; i < 200; i++) {
                    all.add(i);
                }
            } else if (word.length() == 1 && at >= 0) {
                for (int i = 0; i < (word.equals("A") ? 8 : 4); i++) {
                    all.add(37 + 2 * at + i);
                }
            } else {
                all.add(PlainSyntax.numberOf(word));
            }
        }
        return all;
    }

    /** Behind a text some TOKENS can stand; each other one is the first that can not. */
    private static void after(int form, String text, String words) {
        Desk desk = new Desk();
        int places = text.isEmpty() ? 0 : text.split(" ").length;
        Set<Integer> can = tokens(words);
        desk.type(0, text);
        desk.base.say(0, 0, -1, -1, -1, -1);
        for (int token = 0; token < 200; token++) {
            if (token > 62 && token < 100) {
                continue;
            }
            desk.base.put(0, places, token);
            int place = desk.base.fault(0, 0, form, true);
            boolean isSyntax = place == places && desk.base.fault(0, 0, form, false) == 1;
            String what = form + ": " + text + " " + PlainSyntax.wordOf(token) + ", can not stand";
            Desk.is(what, isSyntax, !can.contains(token));
        }
    }

    private static void followsOfStatements() {
        after(0, "", "select insert update delete");
        after(0, "select", "distinct * " + EXPR);
        after(0, "select distinct", "* " + EXPR);
        after(0, "select *", "from");
        after(0, "select * from", "T V");
        after(0, "select * from T0", ", where group");
        after(0, "select * from V3", ", where group");
        after(0, "select * from T0 ,", "T V");
        after(0, "select * from T0 , T1", "where group");
        after(0, "select * from T0 where", CONJ);
        after(0, "select * from T0 where c0 = 1", "and or group " + SIGNS);
        after(0, "select * from T0 group", "outer a b C");
        after(0, "select * from T0 group outer", "a b C");
        after(0, "select * from T0 group b", "C");
        after(0, "select * from T0 group c0", "");
        after(0, "select c0", ", from " + SIGNS);
        after(0, "select c0 , 1 , 2 , 3", "from " + SIGNS);
        after(0, "insert", "T");
        after(0, "insert T0", "C");
        after(0, "insert T0 c0", "=");
        after(0, "insert T0 c0 =", EXPR);
        after(0, "insert T0 c0 = 1", ", " + SIGNS);
        after(0, "insert T0 c0 = 1 ,", "C");
        after(0, "insert T0 c0 = 1 , c1 = 1 , c2 = 1 , c3 = 1", SIGNS);
        after(0, "update", "T");
        after(0, "update T0", "set");
        after(0, "update T0 set", "C");
        after(0, "update T0 set c0 = 1", ", where " + SIGNS);
        after(0, "update T0 set c0 = 1 , c1 = 1 , c2 = 1 , c3 = 1", "where " + SIGNS);
        after(0, "update T0 set c0 = 1 where", CONJ);
        after(0, "delete", "T");
        after(0, "delete T0", "where");
        after(0, "delete T0 where 1 = 1", "and or " + SIGNS);
        after(1, "", "select");
        after(1, "select * from T0", ", where group");
    }

    private static void followsOfExprs() {
        after(2, "", EXPR);
        after(2, "p", SIGNS);
        after(2, "99", SIGNS);
        after(2, "A7", SIGNS);
        after(2, "p +", EXPR);
        after(2, "p *", EXPR);
        after(2, "-", EXPR);
        after(2, "(", "select " + EXPR);
        after(2, "( p", ") " + SIGNS);
        after(2, "( p )", SIGNS);
        after(2, "( select * from T0", "where group , )");
        after(2, "F0", "(");
        after(2, "F0 (", EXPR);
        after(2, "F0 ( p", ") " + SIGNS);
        after(2, "count", "(");
        after(2, "count (", "* " + EXPR);
        after(2, "count ( *", ")");
        after(2, "count ( p", ") " + SIGNS);
        after(2, "sum", "(");
        after(2, "sum (", EXPR);
        after(2, "min (", EXPR);
        after(2, "max (", EXPR);
        after(2, "outer", "a b C");
        after(2, "a", "C");
        after(2, "outer b", "C");
        after(2, "outer b c3", SIGNS);
    }

    private static void followsOfConds() {
        after(3, "", CONJ);
        after(3, "c0", "= <> < <= is not in " + SIGNS);
        after(3, "c0 <", EXPR);
        after(3, "c0 is", "not null");
        after(3, "c0 is not", "null");
        after(3, "c0 is null", "and or");
        after(3, "c0 not", "in");
        after(3, "c0 in", "(");
        after(3, "c0 in (", EXPR);
        after(3, "c0 in ( 1", ", ) " + SIGNS);
        after(3, "c0 in ( 1 ,", EXPR);
        after(3, "c0 in ( 1 , 2 )", "and or");
        after(3, "c0 = 1", "and or " + SIGNS);
        after(3, "c0 = 1 and", CONJ);
        after(3, "c0 = 1 or", CONJ);
        after(3, "not", CONJ);
        after(3, "exists", "(");
        after(3, "exists (", "select");
        after(3, "member", "A");
        after(3, "member A0", "and or");
        after(3, "[", CONJ);
        after(3, "[ c0 = 1", "] and or " + SIGNS);
        after(3, "[ c0 = 1 ]", "and or");
    }

    /** At four deep nothing more that nests can stand: of F, count, exists and in it is their "(". */
    private static void followsFourDeep() {
        after(2, "( ( ( (", "select N null me asker p A C a b outer F count sum min max");
        after(2, "- - - -", "N null me asker p A C a b outer F count sum min max");
        after(2, "- - - - F0", "");
        after(2, "- - - - count", "");
        after(2, "- - - - max", "");
        after(3, "not not not not", "N null me asker p A C a b outer F count sum min max exists member");
        after(3, "[ [ [ [", "N null me asker p A C a b outer F count sum min max exists member");
        after(3, "not not not not c0", "= <> < <= is not in " + SIGNS);
        after(3, "not not not not c0 is", "not null");
        after(3, "not not not not c0 in", "");
        after(3, "not not not not c0 not in", "");
        after(3, "not not not not exists", "");
        after(3, "not not not c0 in", "(");
        after(3, "not not not exists", "(");
        after(2, "- - - F0", "(");
        after(2, "- - - count", "(");
    }

    /** "how many TOKENS there are, if it ends too early": each beginning that is no whole text. */
    private static void endings() {
        endsEarly(0, "select * from T0 , T1 where 1 = 1 group c0", 4, 6, 10, 12);
        endsEarly(0, "select c0 , count ( * ) from V0", 9);
        endsEarly(0, "insert T0 c0 = ( select max ( c0 ) from T1 )", 13);
        endsEarly(0, "update T0 set c0 = 1 , c1 = 2 where 1 = 1", 6, 10, 14);
        endsEarly(0, "delete T0 where member A0 and c0 is not null", 2, 5, 10);
        endsEarly(1, "select distinct * from V0 where null in ( 1 )", 5, 11);
        endsEarly(2, "p * ( p + 1 )", 1, 7);
        endsEarly(3, "c0 = 1 and not c1 not in ( 1 , 2 )", 3, 13);
    }

    /** So many of the first TOKENS of a text are whole texts, all others end too early. */
    private static void endsEarly(int form, String text, Integer... wholes) {
        List<String> words = Arrays.asList(text.split(" "));
        for (int many = 0; many <= words.size(); many++) {
            String start = String.join(" ", words.subList(0, many));
            boolean isEarly = fault(form, start).equals("1@" + many);
            Desk.is("ends too early: " + start, isEarly, !List.of(wholes).contains(many));
        }
    }

    /** "At most four ... may stand inside one another, also with those of a query around". */
    private static void nests(boolean isCond, int deep, String text, String behind) {
        List<Nest> all = new ArrayList<>(IN_EXPR);
        if (isCond) {
            all.addAll(IN_COND);
        }
        String core = isCond ? "1 = 1" : "1";
        if (deep == 4) {
            Desk.is("four deep: " + text + core + behind, fault(3, text + core + behind).startsWith("1@"), false);
        }
        for (Nest nest : all) {
            // A value alone is no cond.
            String more = isCond && IN_EXPR.contains(nest) ? " = 1" : "";
            String closes = (nest.closes.isEmpty() ? "" : " " + nest.closes) + more + behind;
            if (deep < 4) {
                nests(nest.isCond, deep + 1, text + nest.opens + " ", closes);
            } else {
                String inside = nest.isCond ? "1 = 1" : "1";
                int place = (text + "x").split(" ").length - 1 + placeOfNest(nest);
                String five = text + nest.opens + " " + inside + closes;
                Desk.is("five deep: " + five, fault(3, five), "1@" + place);
            }
        }
    }

    /** Four deep and five deep, wherever an expr or a cond may stand. */
    private static void nestsEverywhere() {
        nestOfExpr(0, "select", "from T0");
        nestOfExpr(0, "select 1 , 2 , 3 ,", "from T0");
        nestOfExpr(0, "insert T0 c0 =", "");
        nestOfExpr(0, "insert T0 c0 = 1 , c1 =", ", c2 = 1");
        nestOfExpr(0, "update T0 set c0 =", "");
        nestOfExpr(0, "update T0 set c0 = 1 , c1 =", "where 1 = 1");
        nestOfExpr(1, "select", "from T0");
        nestOfExpr(2, "", "");
        nestOfExpr(2, "1 + 2 *", "");
        nestOfExpr(3, "1 =", "");
        nestOfExpr(3, "", "is null");
        nestOfCond(0, "select 1 from T0 where", "group c0");
        nestOfCond(0, "update T0 set c0 = 1 where", "");
        nestOfCond(0, "delete T0 where", "");
        nestOfCond(1, "select 1 from T0 where", "");
        nestOfCond(3, "", "");
        nestOfCond(3, "1 = 1 or 1 = 1 and", "");
    }

    private static void nestOfExpr(int form, String ahead, String behind) {
        int at = ahead.isEmpty() ? 0 : ahead.split(" ").length;
        Desk.is(ahead + " four", fault(form, (ahead + " - ( - ( 1 ) ) " + behind).trim()).startsWith("1@"), false);
        Desk.is(ahead + " five", fault(form, (ahead + " - ( - ( - 1 ) ) " + behind).trim()), "1@" + (at + 4));
    }

    private static void nestOfCond(int form, String ahead, String behind) {
        int at = ahead.isEmpty() ? 0 : ahead.split(" ").length;
        Desk.is(ahead + " four", fault(form, (ahead + " not [ not [ 1 = 1 ] ] " + behind).trim()).startsWith("1@"), false);
        Desk.is(ahead + " five", fault(form, (ahead + " not [ not [ 1 = - 1 ] ] " + behind).trim()), "1@" + (at + 6));
    }

    /** Where the TOKEN stands that a Nest is counted by. */
    private static int placeOfNest(Nest nest) {
        List<String> words = Arrays.asList(nest.opens.split(" "));
        return words.contains("(") ? words.indexOf("(") : 0;
    }

    /** Side by side there may be as many as one likes. */
    private static void sideBySide() {
        String four = "( ( ( ( 1 ) ) ) )";
        Desk.is("values", fault(2, four + " + " + four + " + " + four), "0@-1");
        Desk.is("a fifth in the last one", fault(2, four + " + " + four + " + ( ( ( ( ( 1 ) ) ) ) )"), "1@24");
        Desk.is("conditions", fault(3, "[ [ [ [ 1 = 1 ] ] ] ] and [ [ [ [ 1 = 1 ] ] ] ] or not not not not 1 = 1"), "0@-1");
        Desk.is("values and conditions", fault(3, "not not not not 1 = 1 and - - - - 1 = - - - - 1"), "0@-1");
        Desk.is("is not, and not in", fault(3, "not not not not 1 is not null"), "0@-1");
        Desk.is("not in in three", fault(3, "not not not 1 not in ( 1 )"), "0@-1");
        Desk.is("- between values is none", fault(2, "( ( ( ( 1 - 1 - 1 - 1 - 1 ) ) ) )"), "0@-1");
        Desk.is("* between values is none", fault(2, "- - - - 1 * 1 * 1 * 1 - 1"), "0@-1");
        Desk.is("- ahead of a factor alone", fault(2, "- 1 + ( - 1 + ( - 1 + ( - 1 ) ) )"), "0@-1");
        Desk.is("- ahead of the fifth", fault(2, "- 1 + ( - 1 + ( - 1 + ( - ( 1 ) ) ) )"), "1@13");
    }

    /** NUMBERS are 0 to 99; what is between the last word and them, and behind them, is no TOKEN. */
    private static void numbers() {
        for (int token = -2; token < 203; token++) {
            Desk desk = new Desk();
            int one = token;
            boolean isToken = token >= 0 && token <= 62 || token >= 100 && token <= 199;
            if (isToken) {
                Desk.is("a TOKEN", desk.base.say(0, one, -1, -1, -1, -1), 1);
                Desk.is("its word", desk.base.typed(0), one < 100 ? PlainSyntax.WORDS[one] : "" + (one - 100));
                Desk.is("put", desk.base.put(0, 0, one), one);
            } else {
                desk.base.say(0, 0, -1, -1, -1, -1);
                Desk.isRaised("no TOKEN to put " + one, "IllegalArgumentException", () -> desk.base.put(0, 0, one));
                if (one != -1) {
                    Desk.isRaised("no TOKEN " + one, "IllegalArgumentException",
                            () -> desk.base.say(0, one, -1, -1, -1, -1));
                }
            }
        }
    }

    public static void main(String[] args) {
        followsOfStatements();
        followsOfExprs();
        followsOfConds();
        followsFourDeep();
        endings();
        nests(true, 0, "", "");
        nestsEverywhere();
        sideBySide();
        numbers();
        Desk.end("TokensTest");
    }
}
