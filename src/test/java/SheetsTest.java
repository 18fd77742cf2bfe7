/** Promises 8 to 13: what is typed. */
public final class SheetsTest {

    private static void say() {
        Desk d = new Desk();
        Desk.is("five", d.base.say(0, 0, 25, 2, 41, -1), 4);
        Desk.is("none", d.base.say(0, -1, -1, -1, -1, -1), 4);
        Desk.is("between", d.base.say(0, -1, 3, -1, 11, -1), 6);
        Desk.is("typed", d.base.typed(0), "select * from T0 where exists");
        Desk.is("other sheets", d.base.typed(1), "");
        for (int i = 0; i < 10; i++) {
            d.base.say(0, 100, 101, 102, 103, 104);
        }
        Desk.is("58", d.base.say(0, 199, 62, -1, -1, -1), 58);
        Desk.isRaised("61", "IllegalStateException", () -> d.base.say(0, 0, 0, 0, -1, -1));
        Desk.is("nothing came", d.base.token(0, 57), 62);
        Desk.is("60", d.base.say(0, 0, -1, -1, -1, 1), 60);
        Desk.is("none more", d.base.say(0, -1, -1, -1, -1, -1), 60);
        Desk.isRaised("a alone", "IllegalStateException", () -> d.base.say(0, 0, -1, -1, -1, -1));
        Desk.isRaised("b alone", "IllegalStateException", () -> d.base.say(0, -1, 0, -1, -1, -1));
        Desk.isRaised("c alone", "IllegalStateException", () -> d.base.say(0, -1, -1, 0, -1, -1));
        Desk.isRaised("d alone", "IllegalStateException", () -> d.base.say(0, -1, -1, -1, 0, -1));
        Desk.isRaised("e alone", "IllegalStateException", () -> d.base.say(0, -1, -1, -1, -1, 0));
        Desk.isRaised("no token goes ahead", "IllegalArgumentException", () -> d.base.say(0, 0, 63, 0, 0, 0));
        Desk.isRaised("no sheet goes ahead", "IndexOutOfBoundsException", () -> d.base.say(4, 0, 63, 0, 0, 0));
        for (int bad : new int[] {-2, 63, 99, 200}) {
            Desk.isRaised("a " + bad, "IllegalArgumentException", () -> d.base.say(1, bad, -1, -1, -1, -1));
            Desk.isRaised("b " + bad, "IllegalArgumentException", () -> d.base.say(1, -1, bad, -1, -1, -1));
            Desk.isRaised("c " + bad, "IllegalArgumentException", () -> d.base.say(1, -1, -1, bad, -1, -1));
            Desk.isRaised("d " + bad, "IllegalArgumentException", () -> d.base.say(1, -1, -1, -1, bad, -1));
            Desk.isRaised("e " + bad, "IllegalArgumentException", () -> d.base.say(1, 0, -1, -1, -1, bad));
        }
        Desk.is("nothing was typed", d.base.typed(1), "");
    }

    private static void words() {
        Desk d = new Desk();
        for (int t = 0; t < 55; t += 5) {
            d.base.say(0, t, t + 1, t + 2, t + 3, t + 4);
        }
        Desk.is("words", d.base.typed(0), "select distinct from where group and or not is null in exists count "
                + "sum min max insert update delete set me asker member p outer * + - ( ) , = <> < <= a b c0 c1 c2 c3 "
                + "T0 T1 T2 T3 V0 V1 V2 V3 F0 F1 F2 F3 A0 A1");
        d.base.say(1, 55, 56, 57, 58, 59);
        d.base.say(1, 60, 61, 62, 100, 107);
        d.base.say(1, 110, 199, -1, -1, -1);
        Desk.is("more words", d.base.typed(1), "A2 A3 A4 A5 A6 A7 [ ] 0 7 10 99");
    }

    private static void wipe() {
        Desk d = new Desk();
        Desk.is("of nothing", d.base.wipe(2, 1), 0);
        d.type(2, "select * from T0");
        Desk.is("one", d.base.wipe(2, 1), 3);
        Desk.is("left", d.base.typed(2), "select * from");
        Desk.is("three", d.base.wipe(2, 3), 0);
        d.type(2, "select * from T0");
        Desk.is("many", d.base.wipe(2, Integer.MAX_VALUE), 0);
        Desk.isRaised("0", "IllegalArgumentException", () -> d.base.wipe(2, 0));
        Desk.isRaised("-1", "IllegalArgumentException", () -> d.base.wipe(2, -1));
    }

    private static void put() {
        Desk d = new Desk();
        d.type(3, "select * from T0");
        Desk.is("the one before", d.base.put(3, 3, 42), 41);
        Desk.is("the first", d.base.put(3, 0, 199), 0);
        Desk.is("typed", d.base.typed(3), "99 * from T1");
        Desk.isRaised("no place", "IndexOutOfBoundsException", () -> d.base.put(3, 4, 0));
        Desk.isRaised("below 0", "IndexOutOfBoundsException", () -> d.base.put(3, -1, 0));
        Desk.isRaised("no sheet", "IndexOutOfBoundsException", () -> d.base.put(4, 0, 0));
        Desk.isRaised("empty", "IndexOutOfBoundsException", () -> d.base.put(0, 0, 0));
        Desk.isRaised("place ahead of token", "IndexOutOfBoundsException", () -> d.base.put(3, 4, 99));
        for (int bad : new int[] {-1, 63, 99, 200}) {
            Desk.isRaised("no token " + bad, "IllegalArgumentException", () -> d.base.put(3, 0, bad));
        }
        Desk.is("token", d.base.token(3, 3), 42);
        Desk.isRaised("token 4", "IndexOutOfBoundsException", () -> d.base.token(3, 4));
        Desk.isRaised("token -1", "IndexOutOfBoundsException", () -> d.base.token(3, -1));
    }

    private static void samples() {
        Desk d = new Desk();
        String[] texts = {
            "select * from T0",
            "select c0 , c1 + 7 from T0 where c1 <= 99",
            "select a c0 , b c1 from T0 , T1 where a c0 = b c0",
            "select c0 , count ( * ) , sum ( c1 ) from T0 group c0",
            "select c0 from T0 where exists ( select c0 from T1 where c0 = outer c0 )",
            "insert T0 c0 = me , c1 = 7 , c2 = 99",
            "update T0 set c1 = c1 + 7 where c0 = me or c1 = 99",
            "delete T0 where c1 < 7",
            "c0 = me or member A5",
            "F0 ( c1 ) <= 7 and c0 is not null",
            "p * 7 + me",
            "select distinct c0 , F0 ( c0 ) from V0 where not c0 in ( 7 , null )",
        };
        for (int i = 0; i < texts.length; i++) {
            Desk.is("tokens of sample " + i, d.base.sample(1, i, 7, 99), texts[i].split(" ").length);
            Desk.is("sample " + i, d.base.typed(1), texts[i]);
        }
        Desk.isRaised("sample 12", "IllegalArgumentException", () -> d.base.sample(0, 12, 0, 0));
        Desk.isRaised("sample -1", "IllegalArgumentException", () -> d.base.sample(0, -1, 0, 0));
        Desk.isRaised("x 100", "IllegalArgumentException", () -> d.base.sample(0, 0, 100, 0));
        Desk.isRaised("x -1", "IllegalArgumentException", () -> d.base.sample(0, 0, -1, 0));
        Desk.isRaised("y 100", "IllegalArgumentException", () -> d.base.sample(0, 0, 0, 100));
        Desk.isRaised("y -1", "IllegalArgumentException", () -> d.base.sample(0, 0, 0, -1));
        Desk.is("nothing came", d.base.typed(0), "");
    }

    public static void main(String[] args) {
        say();
        words();
        wipe();
        put();
        samples();
        Desk.end("SheetsTest");
    }
}
