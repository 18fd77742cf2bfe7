import java.lang.reflect.InvocationTargetException;
import java.lang.reflect.Method;
import java.util.ArrayList;
import java.util.List;

/**
 * Each exception that a method names: at the first argument outside its bounds and far outside,
 * and, where several apply, the one that is named first; nothing changes by such a call.
 */
public final class ExceptionsTest {
    private static final String INDEX = "IndexOutOfBoundsException";
    private static final String ARGUMENT = "IllegalArgumentException";

    /** A bound of an argument: I for an index, A for another argument; the least and the most. */
    private record Bound(boolean isIndex, int least, int most) { }

    // The arguments of each method; f for a boolean, * for one without bounds.
    private static final String[] FACE = {
        "act I0,2 A0,7", "begin I0,2", "commit I0,2", "rollBack I0,2", "savepoint I0,2", "backTo I0,2 *",
        "say I0,3 A-1,62 A-1,62 A-1,62 A-1,62 A-1,62", "wipe I0,3 A1,2147483647", "put I0,3 I0,3 A0,62",
        "sample I0,3 A0,11 A0,99 A0,99", "typed I0,3", "token I0,3 I0,3", "fault I0,2 I0,3 A0,3 f",
        "join I0,2 A0,7 A0,7 f", "leave I0,2 A0,7 A0,7", "make I0,2 I0,3 A1,4", "view I0,2 I0,3 I0,3 f",
        "function I0,2 I0,3 I0,3 f", "drop I0,2 I0,11", "own I0,2 I0,11 A0,7", "secure I0,2 I0,3 A0,2",
        "policy I0,2 I0,3 I0,3 I0,3 A0,3 A0,7", "unpolicy I0,2 I0,3 I0,3",
        "grant I0,2 I0,11 A0,4 A-1,3 A0,7 f", "revoke I0,2 I0,11 A0,4 A-1,3 A0,7 A0,2", "run I0,2 I0,3",
        "result I0,2 A0,4", "answer I0,2", "value I0,2 I0,1 I0,1", "would I0,2 I0,3", "told I0,2 I0,3 A0,7",
        "areAlike I0,2 I0,3 A0,7 A0,7", "circle I0,2 A0,7", "members I0,2", "ofObject I0,2 I0,11 A0,7",
        "text I0,2 I0,11", "policyText I0,2 I0,3 I0,3", "grants I0,2 I0,11", "has I0,2 A0,7 I0,11 A0,4 A-1,3 f",
        "isKnown I0,2 A0,7 I0,11", "sees I0,2 A0,7 I0,7", "rows I0,2 A0,7 I0,3 f", "call I0,2 I0,3 A0,7 A-999,999",
        "ofSession I0,2 A0,4", "knock", "house A0,8", "isSound", "digest",
    };

    private static Desk fresh() {
        Desk d = new Desk();
        for (int session = 0; session < 3; session++) {
            d.base.act(session, 0);
        }
        d.base.make(0, 0, 2);
        d.run(0, "insert T0 c0 = 1 , c1 = 2");
        d.run(0, "insert T0 c0 = 3 , c1 = 4");
        for (int sheet = 0; sheet < 4; sheet++) {
            d.type(sheet, "select * from T0");
        }
        for (int session = 0; session < 3; session++) {
            d.base.run(session, 0);
        }
        return d;
    }

    private static String answer(Method method, Grantbase base, Object[] arguments) {
        try {
            method.invoke(base, arguments);
            return "nothing";
        } catch (InvocationTargetException e) {
            return e.getCause().getClass().getSimpleName();
        } catch (IllegalAccessException e) {
            throw new AssertionError(e);
        }
    }

    private static Method method(String name) {
        for (Method method : Grantbase.class.getDeclaredMethods()) {
            if (method.getName().equals(name) && java.lang.reflect.Modifier.isPublic(method.getModifiers())) {
                return method;
            }
        }
        throw new AssertionError(name);
    }

    private static Bound bound(String word) {
        if (word.equals("f") || word.equals("*")) {
            return null;
        }
        String[] ends = word.substring(1).split(",");
        return new Bound(word.charAt(0) == 'I', Integer.parseInt(ends[0]), Integer.parseInt(ends[1]));
    }

    private static Object[] good(String[] words) {
        Object[] arguments = new Object[words.length - 1];
        for (int i = 0; i < arguments.length; i++) {
            Bound bound = bound(words[i + 1]);
            arguments[i] = words[i + 1].equals("f") ? (Object) true : bound == null ? 0 : bound.least;
        }
        return arguments;
    }

    private static List<Integer> outside(Bound bound) {
        List<Integer> all = new ArrayList<>(List.of(bound.least - 1, Integer.MIN_VALUE));
        if (bound.most < Integer.MAX_VALUE) {
            all.add(bound.most + 1);
            all.add(Integer.MAX_VALUE);
        }
        return all;
    }

    private static void one(String line) {
        String[] words = line.split(" ");
        Method method = method(words[0]);
        Desk desk = fresh();
        Grantbase base = desk.base;
        String before = desk.state();
        for (int i = 1; i < words.length; i++) {
            Bound bound = bound(words[i]);
            if (bound == null) {
                continue;
            }
            for (int bad : outside(bound)) {
                Object[] arguments = good(words);
                arguments[i - 1] = bad;
                Desk.is(line + " with " + bad + " at " + i, answer(method, base, arguments),
                        bound.isIndex ? INDEX : ARGUMENT);
                two(line, i, bad, base);
            }
        }
        Desk.is(line + " changes nothing by that", desk.state(), before);
        Desk.is(line + " is not counted as REFUSED by that", base.house(1), 0);
        for (int i = 1; i < words.length; i++) {
            Bound bound = bound(words[i]);
            if (bound != null && bound.most < Integer.MAX_VALUE) {
                Object[] arguments = good(words);
                arguments[i - 1] = bound.most;
                Desk.is(line + " with the most at " + i, answer(method, fresh().base, arguments), "nothing");
            }
        }
        Desk.is(line + " with the least", answer(method, fresh().base, good(words)), "nothing");
    }

    /** With a second argument outside its bounds: an index goes ahead of all others. */
    private static void two(String line, int first, int bad, Grantbase base) {
        String[] words = line.split(" ");
        for (int i = 1; i < words.length; i++) {
            Bound bound = bound(words[i]);
            if (bound == null || i == first) {
                continue;
            }
            Object[] arguments = good(words);
            arguments[first - 1] = bad;
            arguments[i - 1] = bound.least - 1;
            boolean isIndex = bound.isIndex || bound(words[first]).isIndex;
            Desk.is(line + " with two bad at " + first + " and " + i, answer(method(words[0]), base, arguments),
                    isIndex ? INDEX : ARGUMENT);
        }
    }

    private static void full() {
        Desk d = new Desk();
        for (int i = 0; i < 12; i++) {
            d.base.say(0, 0, 0, 0, 0, 0);
        }
        d.thrown("more than 60", "IllegalStateException", () -> d.base.say(0, 0, -1, -1, -1, -1));
        d.thrown("no token, and more than 60", ARGUMENT, () -> d.base.say(0, 0, -1, -1, -1, 63));
        d.thrown("no sheet, and more than 60", INDEX, () -> d.base.say(-1, 0, -1, -1, -1, -1));
        d.thrown("no sheet, no token, and more than 60", INDEX, () -> d.base.say(4, 63, -1, -1, -1, -1));
    }

    public static void main(String[] args) {
        Desk.is("methods", FACE.length, 48);
        for (String line : FACE) {
            one(line);
        }
        full();
        Desk.end("ExceptionsTest");
    }
}
