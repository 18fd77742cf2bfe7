/** Promises 27 to 48: results and what is asked, with what does not fit, is not there, or is empty. */
public final class AskingTest {
    private static final String INDEX = "IndexOutOfBoundsException";

    private static String results(Desk d, int session) {
        StringBuilder all = new StringBuilder();
        for (int what = 0; what <= 4; what++) {
            all.append(what == 0 ? "" : " ").append(d.base.result(session, what));
        }
        return all.toString();
    }

    private static Desk prepare() {
        Desk d = new Desk();
        d.base.make(0, 0, 2);
        d.insert(0, 0, "1", "2");
        d.insert(0, 0, "3", "null");
        return d;
    }

    /** result(): "0 none yet, 1 ROWS of a query, 2 another statement, 3 ERROR"; "0 where it does not fit the KIND". */
    private static void kinds() {
        Desk d = prepare();
        Desk.is("none yet", results(d, 1) + d.base.answer(1), "0 0 0 0 0");
        Desk.is("a query", d.run(0, "select * from T0"), 2);
        Desk.is("its result", results(d, 0), "1 2 2 0 0");
        Desk.is("a query without ROWS", d.run(0, "select c0 , c1 , c0 from T0 where c0 = 9"), 0);
        Desk.is("its COLUMNS all the same", results(d, 0), "1 0 3 0 0");
        Desk.is("* without ROWS", d.run(0, "select * from T0 where c0 = 9"), 0);
        Desk.is("its COLUMNS all the same", results(d, 0), "1 0 2 0 0");
        Desk.is("an insert", d.insert(0, 0, "5"), 1);
        Desk.is("its result", results(d, 0) + d.base.answer(0), "2 0 0 1 0");
        Desk.is("an update", d.run(0, "update T0 set c1 = 1"), 3);
        Desk.is("its result", results(d, 0), "2 0 0 3 0");
        Desk.is("an update of none", d.run(0, "update T0 set c1 = 1 where c0 = 9"), 0);
        Desk.is("its result", results(d, 0), "2 0 0 0 0");
        Desk.is("a delete", d.run(0, "delete T0 where c0 = 5"), 1);
        Desk.is("its result", results(d, 0), "2 0 0 1 0");
        String[] texts = {"select", "select * from T1", "delete T0", "select p from T0"};
        d.base.grant(0, 0, 0, 0, 1, false);
        for (int i = 0; i < texts.length; i++) {
            int session = i == 2 ? 1 : 0;
            Desk.is(texts[i], d.run(session, texts[i]), -11 - i);
            Desk.is("its result", results(d, session) + d.base.answer(session), "3 0 0 0 " + (i + 1));
        }
        d.base.secure(0, 0, 2);
        Desk.is("BARRED", d.insert(0, 0, "5"), -15);
        Desk.is("its result", results(d, 0), "3 0 0 0 5");
        d.base.secure(0, 0, 0);
        for (int i = 0; i < 6; i++) {
            d.insert(0, 0, "5");
        }
        Desk.is("FULL", d.insert(0, 0, "5"), -16);
        Desk.is("its result", results(d, 0), "3 0 0 0 6");
        Desk.is("of another SESSION", results(d, 2), "0 0 0 0 0");
    }

    /** "the RESULT of the last run(), whatever came since"; would() and told() are no run(). */
    private static void whateverCame() {
        Desk d = prepare();
        d.run(0, "select * from T0");
        String due = "1 2 2 0 0 1,2;3,-";
        d.base.would(0, 3);
        d.base.begin(0);
        Desk.is("begin", results(d, 0) + " " + d.base.answer(0), due);
        d.base.drop(0, 0);
        d.type(3, "delete T0");
        d.base.would(0, 3);
        d.base.told(0, 3, 1);
        d.base.areAlike(0, 3, 0, 1);
        d.run(1, "select");
        d.base.rollBack(0);
        d.base.act(0, 5);
        d.base.make(0, 0, 1);
        Desk.is("all of that", results(d, 0) + " " + d.base.answer(0), due);
        Desk.is("its VALUES", d.base.value(0, 1, 1) + d.base.value(0, 0, 1), -9997);
        d.base.begin(2);
        d.base.make(2, 1, 1);
        d.insert(2, 1, "7");
        d.run(2, "select c0 from T1");
        d.base.rollBack(2);
        Desk.is("what was told in what is gone", results(d, 2) + " " + d.base.answer(2), "1 1 1 0 0 7");
    }

    /** value(): "no such ROW or COLUMN" on both sides; none without a query. */
    private static void values() {
        Desk d = prepare();
        d.thrown("none yet", INDEX, () -> d.base.value(0, 0, 0));
        d.run(0, "select c0 , c1 , c0 + c1 from T0");
        int[][] dues = {{1, 2, 3}, {3, -9999, -9999}};
        for (int row = 0; row < 2; row++) {
            for (int column = 0; column < 3; column++) {
                Desk.is("value", d.base.value(0, row, column), dues[row][column]);
            }
        }
        for (int[] bad : new int[][] {{-1, 0}, {2, 0}, {0, -1}, {0, 3}, {Integer.MIN_VALUE, 0}, {0, Integer.MAX_VALUE}}) {
            d.thrown("no value", INDEX, () -> d.base.value(0, bad[0], bad[1]));
        }
        d.thrown("of another SESSION", INDEX, () -> d.base.value(1, 0, 0));
        d.run(0, "select * from T0 where c0 = 9");
        d.thrown("no ROWS", INDEX, () -> d.base.value(0, 0, 0));
        d.run(0, "select * from T0");
        d.run(0, "select");
        d.thrown("an ERROR", INDEX, () -> d.base.value(0, 0, 0));
        d.run(0, "select * from T0");
        d.run(0, "delete T0");
        d.thrown("another statement", INDEX, () -> d.base.value(0, 0, 0));
    }

    /** would() and told(): "" with an ERROR, or if it is another statement; nothing is done. */
    private static void would() {
        Desk d = prepare();
        String[] none = {"", "select", "select * from T1", "select p from T0", "delete T0", "update T0 set c0 = 9",
            "insert T0 c0 = 9", "p", "c0 = 1", "select * from T0 where c0 = 9"};
        for (String text : none) {
            d.type(0, text);
            String before = d.state();
            Desk.is("would: " + text, d.base.would(0, 0), "");
            Desk.is("told: " + text, d.base.told(0, 0, 0), "");
            Desk.is("nothing is done: " + text, d.state(), before);
        }
        d.type(0, "select c0 * 10 * 10 + me * 10 + asker from T0");
        d.base.grant(0, 0, 0, -1, 5, false);
        Desk.is("would", d.base.would(0, 0), "100;300");
        Desk.is("told to 5", d.base.told(0, 0, 5), "155;355");
        Desk.is("told by another SESSION", d.base.told(2, 0, 5), "155;355");
        Desk.is("told to who may not", d.base.told(0, 0, 6), "");
        Desk.is("by who may not", d.base.would(1, 0), "");
        d.base.act(1, 5);
        Desk.is("as 5", d.base.would(1, 0), "155;355");
        d.base.begin(0);
        d.run(0, "delete T0 where c0 = 1");
        Desk.is("in the DATABASE of the SESSION", d.base.told(0, 0, 5), "355");
        Desk.is("not in the other one", d.base.told(1, 0, 5), "155;355");
    }

    /** areAlike(): the same told, and the same ERROR at the same PLACE. */
    private static void alike() {
        Desk d = prepare();
        d.base.grant(0, 0, 0, 0, 1, false);
        d.base.grant(0, 0, 1, -1, 2, false);
        d.base.grant(0, 0, 0, 0, 5, false);
        String[] texts = {"select c0 from T0", "select c1 , p from T0", "select 1 from T0", "select 1", "select me from T0",
            "select c0 from T0 where c0 = 9", "insert T0 c0 = 1", "delete T0", "select c0 + c1 from T0"};
        // Of 0 and 1, 1 and 2, 2 and 3, 1 and 5.
        String[] dues = {"TFTT", "FTTT", "TFFT", "TTTT", "FFFF", "TFTT", "FFFT", "FTFT", "FFTT"};
        int[][] pairs = {{0, 1}, {1, 2}, {2, 3}, {1, 5}};
        for (int i = 0; i < texts.length; i++) {
            d.type(0, texts[i]);
            for (int j = 0; j < pairs.length; j++) {
                String what = texts[i] + ", " + pairs[j][0] + " and " + pairs[j][1];
                boolean due = dues[i].charAt(j) == 'T';
                Desk.is(what, d.base.areAlike(0, 0, pairs[j][0], pairs[j][1]), due);
                Desk.is(what + " the other way", d.base.areAlike(0, 0, pairs[j][1], pairs[j][0]), due);
                Desk.is(what + " with itself", d.base.areAlike(2, 0, pairs[j][1], pairs[j][1]), true);
            }
        }
        // "without ERRORS 5 and 6"
        d.base.grant(0, 0, 1, -1, 1, false);
        d.base.secure(0, 0, 1);
        d.type(0, "insert T0 c0 = 1");
        Desk.is("BARRED for one of both", d.base.areAlike(0, 0, 0, 1), true);
        d.type(0, "select c0 from T0");
        Desk.is("no ROWS for one of both", d.base.areAlike(0, 0, 0, 1), false);
        Desk.is("no ROWS for both", d.base.areAlike(0, 0, 1, 5), true);
    }

    /** The same told is the same text: of no ROWS whatever COLUMNS, of one ROW all of them. */
    private static void widths() {
        Desk d = new Desk();
        d.base.make(0, 0, 2);
        d.base.grant(0, 0, 0, 0, 1, false);
        d.base.grant(0, 0, 0, 1, 2, false);
        d.base.grant(0, 0, 0, 0, 3, false);
        d.type(0, "select * from T0");
        int[][] pairs = {{0, 1}, {1, 0}, {1, 2}, {1, 3}};
        for (int[] pair : pairs) {
            Desk.is("no ROWS", d.base.areAlike(0, 0, pair[0], pair[1]), true);
        }
        d.insert(0, 0, "7", "7");
        boolean[] one = {false, false, true, true};
        for (int i = 0; i < 4; i++) {
            int[] pair = pairs[i];
            Desk.is("one ROW of " + pair[0] + " and " + pair[1], d.base.areAlike(0, 0, pair[0], pair[1]), one[i]);
        }
        d.insert(0, 0, "9", "8");
        Desk.is("another last VALUE", d.base.areAlike(0, 0, 1, 2), false);
        d.run(0, "update T0 set c0 = 8 , c1 = 8");
        Desk.is("the same VALUES", d.base.areAlike(0, 0, 1, 2), true);
        d.run(0, "update T0 set c0 = 6 where c0 = 8");
        Desk.is("other VALUES", d.base.areAlike(0, 0, 1, 2), false);
        d.run(0, "delete T0");
        d.insert(0, 0, "1", "null");
        d.insert(0, 0, "2", "2");
        Desk.is("another first VALUE", d.base.areAlike(0, 0, 1, 2), false);
    }

    /** ofObject(): each fact of each OBJECT; "NONE without the OBJECT, or if it does not fit it". */
    private static void facts() {
        Desk d = prepare();
        for (int object = 1; object < 12; object++) {
            for (int what = 0; what <= 7; what++) {
                Desk.is("without the OBJECT " + object, d.base.ofObject(1, object, what), -1);
            }
        }
        d.base.act(1, 7);
        d.base.make(1, 3, 4);
        d.view(0, 3, "select * from T0", true);
        d.view(1, 0, "select c0 from T3", false);
        d.function(0, 3, "p", true);
        d.function(1, 0, "p", false);
        d.base.grant(1, 3, 0, -1, 1, false);
        d.base.grant(1, 3, 0, 2, 1, false);
        d.base.grant(0, 7, 0, 3, 1, false);
        d.policy(1, 3, 0, "c0 = 1", 0, 1);
        d.policy(1, 3, 3, "c0 = 1", 0, 1);
        d.base.secure(1, 3, 2);
        d.base.secure(0, 0, 1);
        d.run(0, "delete T0 where c0 = 1");
        int[][] dues = {{0, 0, 0, 2, 1, 2, 1, 0, -1}, {3, 7, 2, 4, 0, 0, 2, 9, -1}, {4, 7, 0, -1, -1, -1, -1, -1, 0},
            {7, 0, 1, -1, -1, -1, -1, -1, 1}, {8, 7, 0, -1, -1, -1, -1, -1, 0}, {11, 0, 0, -1, -1, -1, -1, -1, 1}};
        for (int[] due : dues) {
            for (int what = 0; what <= 7; what++) {
                Desk.is("OBJECT " + due[0] + ", " + what, d.base.ofObject(2, due[0], what), due[what + 1]);
            }
        }
        Desk.is("TEXT of a VIEW", d.base.text(2, 7) + "|" + d.base.text(2, 4), "select * from T0|select c0 from T3");
        Desk.is("TEXT of a FUNCTION", d.base.text(2, 11) + "|" + d.base.text(2, 9), "p|");
    }

    /** Section 8: a VALUE, a ROW, ROWS; what is asked of none is "". */
    private static void texts() {
        Desk d = prepare();
        Desk.is("ROWS of a TABLE", d.base.text(1, 0), "0:1,2;1:3,-");
        Desk.is("of no TABLE", d.base.text(1, 1), "");
        d.base.make(0, 1, 1);
        Desk.is("of a TABLE without ROWS", d.base.text(1, 1), "");
        d.insert(0, 1, "- 27 * 37");
        Desk.is("one ROW of one VALUE", d.base.text(1, 1), "0:-999");
        d.insert(0, 1, "null");
        Desk.is("NULL", d.base.text(1, 1), "0:-999;1:-");
        Desk.is("told", d.told(0, "select c0 , - c0 from T1"), "-,-;-999,999");
        Desk.is("no GRANTS", d.base.grants(1, 0), "");
        Desk.is("of no OBJECT", d.base.grants(1, 9), "");
        d.base.grant(0, 0, 3, -1, 7, true);
        Desk.is("one", d.base.grants(1, 0), "3.*:0>7!");
        d.base.grant(0, 0, 1, 3, 1, false);
        Desk.is("two", d.base.grants(1, 0), "1.3:0>1 3.*:0>7!");
        Desk.is("no MEMBERSHIPS", d.base.members(1), "");
        d.base.join(0, 7, 0, true);
        Desk.is("one", d.base.members(1), "7>0!");
        d.base.join(2, 0, 2, false);
        Desk.is("two", d.base.members(1), "0>2 7>0!");
        Desk.is("no POLICY", d.base.policyText(1, 0, 0) + d.base.policyText(1, 3, 3), "");
        d.policy(0, 0, 2, "c1 <= A7", 3, 7);
        Desk.is("one", d.base.policyText(1, 0, 2), "3,7:c1 <= A7");
        Desk.is("NUMBERS of ROWS", d.base.rows(0, 0, 0, false) + "|" + d.base.rows(0, 3, 1, true), "0 1|0 1");
        d.run(0, "delete T0 where c0 = 1");
        Desk.is("one", d.base.rows(0, 0, 0, false), "1");
        Desk.is("of no TABLE", d.base.rows(0, 0, 3, false), "");
        for (int i = 2; i < 11; i++) {
            d.insert(0, 0, "1");
            d.run(0, "delete T0 where c0 = 1");
        }
        d.insert(0, 0, "2");
        Desk.is("of two digits", d.base.rows(0, 0, 0, true) + "|" + d.base.text(0, 0), "1 11|1:3,-;11:2,-");
    }

    /** SAMPLES: "x and y are NUMBERS", 0 and 99 too. */
    private static void samples() {
        Desk d = new Desk();
        for (int sample = 0; sample < 12; sample++) {
            d.base.sample(0, sample, 0, 99);
            d.base.sample(1, sample, 99, 0);
            String one = " " + d.base.typed(0) + " ";
            String other = " " + d.base.typed(1) + " ";
            Desk.is("SAMPLE " + sample, one.replace(" 0 ", " x ").replace(" 99 ", " y "),
                    other.replace(" 99 ", " x ").replace(" 0 ", " y "));
            String due = PlainModel.SAMPLES[sample].replaceAll("\\bx\\b", "0").replaceAll("\\by\\b", "99");
            Desk.is("SAMPLE " + sample, one.trim(), due);
            Desk.is("so many TOKENS", d.base.sample(0, sample, 5, 5), one.trim().split(" ").length);
            int form = sample < 8 || sample == 11 ? 0 : sample < 10 ? 3 : 2;
            for (int as = 0; as < 4; as++) {
                boolean isRead = d.base.fault(0, 0, as, false) != 1;
                Desk.is("it is read at once as " + as, isRead, as == form || as == 1 && (sample < 5 || sample == 11));
            }
        }
    }

    /** has(): "false, if it does not FIT, or the OBJECT is not there"; sees() "none of one that is BROKEN". */
    private static void rights() {
        Desk d = prepare();
        Desk.is("does not FIT", d.base.has(0, 0, 0, 4, -1, false), false);
        Desk.is("a COLUMN does not FIT", d.base.has(0, 0, 0, 3, 0, false), false);
        Desk.is("FITS", d.base.has(0, 0, 0, 3, -1, false), true);
        Desk.is("not there", d.base.has(0, 0, 1, 3, -1, false), false);
        d.view(0, 0, "select c0 from T0", false);
        d.base.grant(0, 4, 0, -1, 1, false);
        Desk.is("HAS it, though BROKEN", d.base.has(0, 1, 4, 0, 0, false), true);
        Desk.is("KNOWN, though BROKEN", d.base.isKnown(0, 1, 4), true);
        Desk.is("SEES none of it", d.base.sees(0, 1, 4), 0);
        Desk.is("its OWNER does", d.base.sees(0, 0, 4), 1);
        Desk.is("of no TABLE", d.base.sees(0, 0, 3), 0);
        Desk.is("of no VIEW", d.base.sees(0, 0, 7), 0);
        d.base.grant(0, 0, 0, 0, 1, false);
        Desk.is("not BROKEN", d.base.sees(0, 1, 4), 1);
        Desk.is("of the SESSION whatever it acts as", d.base.sees(2, 1, 4), 1);
    }

    /** knock() and house(): how often, with this. */
    private static void house() {
        Desk d = prepare();
        for (int i = 1; i <= 3; i++) {
            Desk.is("knock", d.base.knock(), i);
            Desk.is("how often", d.base.house(3), i);
        }
        d.base.begin(0);
        d.base.make(0, 1, 1);
        d.base.join(0, 1, 0, false);
        d.base.grant(0, 0, 0, -1, 1, false);
        d.policy(0, 0, 0, "c0 = 1", 0, 0);
        d.insert(0, 0, "1");
        int[] shared = {3, 0, 0, 3, 1, 0, 0, 2, 0};
        int[] then = {4, 0, 0, 4, 2, 1, 1, 3, 1};
        for (int what = 0; what <= 8; what++) {
            Desk.is("of what all share, " + what, d.base.house(what), shared[what]);
        }
        Desk.is("knock", d.base.knock(), 4);
        Desk.is("commit", d.base.commit(0), 4);
        for (int what = 0; what <= 8; what++) {
            Desk.is("then, " + what, d.base.house(what), then[what]);
        }
    }

    public static void main(String[] args) {
        kinds();
        whateverCame();
        values();
        would();
        alike();
        widths();
        facts();
        texts();
        samples();
        rights();
        house();
        Desk.end("AskingTest");
    }
}
