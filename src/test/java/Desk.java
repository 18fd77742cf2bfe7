import java.util.function.IntSupplier;

/** An object under test, with sheets typed by words, and a count of what is wrong. */
final class Desk {
    /** How many numbers the checksum mixes in behind the one that tells how often REFUSED was told. */
    private static final int BEHIND_REFUSED = 1268;

    final Grantbase base = new Grantbase();
    private static int wrong;

    /** Types a text in the place of what a sheet holds. */
    Desk type(int sheet, String text) {
        base.wipe(sheet, 60);
        String[] words = text.isEmpty() ? new String[0] : text.split(" ");
        for (int i = 0; i < words.length; i += 5) {
            int[] five = {-1, -1, -1, -1, -1};
            for (int j = 0; j < five.length && i + j < words.length; j++) {
                five[j] = PlainSyntax.numberOf(words[i + j]);
            }
            base.say(sheet, five[0], five[1], five[2], five[3], five[4]);
        }
        return this;
    }

    /** Runs a text in a session, by sheet 3. */
    int run(int session, String text) {
        type(3, text);
        return base.run(session, 3);
    }

    /** What a query tells an actor in the DATABASE of session 0, by sheet 3. */
    String told(int actor, String text) {
        type(3, text);
        return base.told(0, 3, actor);
    }

    /** The ERROR of a text as a form for session 0 and its PLACE, as "2@4"; "0@-1" without one. */
    String fault(int form, String text) {
        return fault(0, form, text);
    }

    String fault(int session, int form, String text) {
        type(3, text);
        return base.fault(session, 3, form, false) + "@" + base.fault(session, 3, form, true);
    }

    /** An insert of values into the first columns of a table, by its owner's session. */
    int insert(int session, int table, String... values) {
        StringBuilder text = new StringBuilder("insert T" + table);
        for (int i = 0; i < values.length; i++) {
            text.append(i == 0 ? " c" : " , c").append(i).append(" = ").append(values[i]);
        }
        return run(session, text.toString());
    }

    int view(int session, int view, String text, boolean isOwners) {
        type(3, text);
        return base.view(session, view, 3, isOwners);
    }

    int function(int session, int function, String text, boolean isOwners) {
        type(3, text);
        return base.function(session, function, 3, isOwners);
    }

    int policy(int session, int table, int policy, String text, int kind, int actor) {
        type(3, text);
        return base.policy(session, table, policy, 3, kind, actor);
    }

    /** All that an object tells, but for how often REFUSED was told. */
    String state() {
        StringBuilder all = new StringBuilder();
        for (int s = 0; s < 3; s++) {
            all.append(base.answer(s)).append('|').append(base.members(s)).append('|');
            for (int object = 0; object < 12; object++) {
                all.append(base.text(s, object)).append('|').append(base.grants(s, object)).append('|');
            }
            for (int slot = 0; slot < 16; slot++) {
                all.append(base.policyText(s, slot / 4, slot % 4)).append('|');
            }
        }
        for (int sheet = 0; sheet < 4; sheet++) {
            all.append(base.typed(sheet)).append('|');
        }
        long weight = 1;
        for (int i = 0; i < BEHIND_REFUSED; i++) {
            weight *= 31;
        }
        return all.append(base.digest() - base.house(1) * weight).toString();
    }

    /** A call that is REFUSED: it is counted, and changes nothing else. */
    void refused(String what, IntSupplier call) {
        String before = state();
        int counted = base.house(1);
        is(what, call.getAsInt(), -9);
        is(what + ", counted", base.house(1), counted + 1);
        is(what + ", changes nothing", state(), before);
    }

    /** A call that throws: it is not counted as REFUSED, and changes nothing. */
    void thrown(String what, String due, Runnable call) {
        String before = state();
        int counted = base.house(1);
        isRaised(what, due, call);
        is(what + ", not counted", base.house(1), counted);
        is(what + ", changes nothing", state(), before);
    }

    static void is(String what, Object got, Object due) {
        if (!due.equals(got)) {
            wrong++;
            System.out.println(what + ": answered " + got + ", due is " + due);
        }
    }

    static void isRaised(String what, String due, Runnable call) {
        String got = "nothing";
        try {
            call.run();
        } catch (RuntimeException e) {
            got = e.getClass().getSimpleName();
        }
        is(what, got, due);
    }

    /** Ends a test: with exit code 1 if something was wrong. */
    static void end(String test) {
        System.out.println(test + ": " + (wrong == 0 ? "all answers are as due" : wrong + " are not as due"));
        if (wrong != 0) {
            System.exit(1);
        }
    }
}
