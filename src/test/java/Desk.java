/** An object under test, with sheets typed by words, and a count of what is wrong. */
final class Desk {
    final Grantbase base = new Grantbase();
    private static int wrong;

    /** Types a text in the place of what a sheet holds. */
    Desk type(int sheet, String text) {
        base.wipe(sheet, 60);
        for (String word : text.split(" ")) {
            if (!word.isEmpty()) {
                base.say(sheet, PlainSyntax.numberOf(word), -1, -1, -1, -1);
            }
        }
        return this;
    }

    /** Runs a text in a session, by sheet 3. */
    int run(int session, String text) {
        type(3, text);
        return base.run(session, 3);
    }

    /** What a query tells an actor in the DATABASE of session 0, by sheet 3. */
    String told(int actor, String text) {
        type(3, text);
        return base.told(0, 3, actor);
    }

    /** The ERROR of a text as a form for session 0 and its PLACE, as "2@4"; "0@-1" without one. */
    String fault(int form, String text) {
        return fault(0, form, text);
    }

    String fault(int session, int form, String text) {
        type(3, text);
        return base.fault(session, 3, form, false) + "@" + base.fault(session, 3, form, true);
    }

    int view(int session, int view, String text, boolean isOwners) {
        type(3, text);
        return base.view(session, view, 3, isOwners);
    }

    int function(int session, int function, String text, boolean isOwners) {
        type(3, text);
        return base.function(session, function, 3, isOwners);
    }

    int policy(int session, int table, int policy, String text, int kind, int actor) {
        type(3, text);
        return base.policy(session, table, policy, 3, kind, actor);
    }

    static void is(String what, Object got, Object due) {
        if (!due.equals(got)) {
            wrong++;
            System.out.println(what + ": answered " + got + ", due is " + due);
        }
    }

    static void isRaised(String what, String due, Runnable call) {
        String got = "nothing";
        try {
            call.run();
        } catch (RuntimeException e) {
            got = e.getClass().getSimpleName();
        }
        is(what, got, due);
    }

    /** Ends a test: with exit code 1 if something was wrong. */
    static void end(String test) {
        System.out.println(test + ": " + (wrong == 0 ? "all answers are as due" : wrong + " are not as due"));
        if (wrong != 0) {
            System.exit(1);
        }
    }
}
