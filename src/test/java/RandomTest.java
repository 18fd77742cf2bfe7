import java.lang.reflect.InvocationTargetException;
import java.lang.reflect.Method;
import java.util.ArrayList;
import java.util.Arrays;
import java.util.List;
import java.util.Random;
import java.util.TreeMap;

/** Calls by chance, each of which the program has to answer as the plain model does. */
public final class RandomTest {
    private static final TreeMap<String, Method> PROGRAM = methods(Grantbase.class);
    private static final TreeMap<String, Method> MODEL = methods(PlainModel.class);

    private final Random random;
    private final Phrases phrases;
    private final Grantbase program = new Grantbase();
    private final PlainModel model = new PlainModel();
    private final List<String> log = new ArrayList<>();
    private boolean isWrong;
    static final TreeMap<String, Integer> ANSWERS = new TreeMap<>();

    private RandomTest(long seed) {
        random = new Random(seed);
        phrases = new Phrases(random);
    }

    private static TreeMap<String, Method> methods(Class<?> of) {
        TreeMap<String, Method> all = new TreeMap<>();
        for (Method m : Grantbase.class.getDeclaredMethods()) {
            if (java.lang.reflect.Modifier.isPublic(m.getModifiers())) {
                try {
                    Method found = of.getDeclaredMethod(m.getName(), m.getParameterTypes());
                    found.setAccessible(true);
                    all.put(m.getName(), found);
                } catch (NoSuchMethodException e) {
                    throw new AssertionError(e);
                }
            }
        }
        return all;
    }

    private static String answer(Method m, Object on, Object... args) {
        try {
            return String.valueOf(m.invoke(on, args));
        } catch (InvocationTargetException e) {
            return "throws." + e.getCause().getClass().getSimpleName();
        } catch (IllegalAccessException e) {
            throw new AssertionError(e);
        }
    }

    /** One call of both: what the program answers. */
    private String both(String name, Object... args) {
        String got = answer(PROGRAM.get(name), program, args);
        String due = answer(MODEL.get(name), model, args);
        log.add(name + Arrays.toString(args) + " -> " + got);
        String sort = name + " " + (got.startsWith("throws") ? got : got.startsWith("-") && got.length() < 4 ? got : "");
        ANSWERS.merge(sort, 1, Integer::sum);
        if (!got.equals(due) && !isWrong) {
            isWrong = true;
            log.add("  due is " + due);
        }
        return got;
    }

    private int pick(int... of) {
        return of[random.nextInt(of.length)];
    }

    private boolean chance(int percent) {
        return random.nextInt(100) < percent;
    }

    private int upTo(int most) {
        return chance(1) ? pick(-1, most + 1, Integer.MIN_VALUE, Integer.MAX_VALUE) : random.nextInt(most + 1);
    }

    private int session() {
        return chance(1) ? pick(-1, 3) : pick(0, 0, 0, 1, 1, 2);
    }

    private int actor() {
        return chance(1) ? pick(-1, 8) : pick(0, 0, 1, 1, 2, 2, 3, 4, 5, 6, 7);
    }

    private int table() {
        return chance(1) ? pick(-1, 4) : pick(0, 0, 0, 1, 1, 2, 3);
    }

    private int object() {
        List<Integer> there = new ArrayList<>(model.shared.things.keySet());
        if (!there.isEmpty() && chance(85)) {
            return there.get(random.nextInt(there.size()));
        }
        return chance(5) ? pick(-1, 12) : random.nextInt(12);
    }

    /** A session that may do something with an object, most of the time. */
    private int sessionFor(int object, int right, int column) {
        List<Integer> can = new ArrayList<>();
        for (int i = 0; i < 3; i++) {
            if (model.db(i).has(model.sessions[i].actor, object, right, column, true)) {
                can.add(i);
            }
        }
        return can.isEmpty() || chance(15) ? session() : can.get(random.nextInt(can.size()));
    }

    /** A session whose actor owns a object, most of the time. */
    private int sessionOf(int object) {
        return sessionFor(object, 9, 9);
    }

    private int column() {
        return chance(1) ? pick(-2, 4) : pick(-1, -1, 0, 0, 1, 1, 2, 3);
    }

    private int sheet() {
        return chance(1) ? pick(-1, 4) : random.nextInt(4);
    }

    /** A right that fits an object, most of the time. */
    private int right(int object) {
        return chance(5) ? upTo(4) : object >= 8 ? 4 : object >= 4 ? 0 : pick(0, 0, 0, 1, 2, 3);
    }

    /** Types a text that is meant for a session, which it answers. */
    private int type(int sheet, int form) {
        int session = form == 3 ? Math.floorMod(sessionOf(0), 3) : random.nextInt(3);
        if (chance(10)) {
            both("sample", sheet, upTo(11), random.nextInt(6), random.nextInt(6));
            return session;
        }
        phrases.know(model.db(session), model.sessions[session].actor);
        List<Integer> tokens = phrases.of(form);
        both("wipe", sheet, 60);
        for (int i = 0; i < tokens.size(); i += 5) {
            Object[] five = {sheet, -1, -1, -1, -1, -1};
            for (int j = 0; j < 5 && i + j < tokens.size(); j++) {
                five[j + 1] = tokens.get(i + j);
            }
            both("say", five);
        }
        return session;
    }

    private void begin() {
        int tables = 1 + random.nextInt(3);
        for (int i = 0; i < tables; i++) {
            both("make", random.nextInt(3), i, pick(1, 2, 2, 3, 3, 4));
        }
        for (int i = 0; i < 20; i++) {
            int table = random.nextInt(tables);
            int columns = model.shared.things.containsKey(table) ? model.shared.things.get(table).columns : 1;
            String text = "insert T" + table + " c0 = " + random.nextInt(4);
            for (int c = 1; c < columns && chance(80); c++) {
                text += " , c" + c + " = " + (chance(20) ? "null" : chance(20) ? "- " + random.nextInt(5)
                        : random.nextInt(5));
            }
            both("wipe", 0, 60);
            for (String word : text.split(" ")) {
                both("say", 0, PlainSyntax.numberOf(word), -1, -1, -1, -1);
            }
            both("run", chance(95) ? sessionOf(table) : random.nextInt(3), 0);
        }
        for (int i = 0; i < 10; i++) {
            grant();
        }
        if (chance(50)) {
            policies(random.nextInt(tables));
        }
    }

    /** Policies that let much be read and written. */
    private void policies(int table) {
        String[] texts = {"c0 <= 2", "c0 = me or c0 < 3", "me = asker or c0 is not null", "not c0 = 3", "0 = 0"};
        for (int i = 0; i < 4; i++) {
            both("wipe", 1, 60);
            for (String word : texts[random.nextInt(texts.length)].split(" ")) {
                both("say", 1, PlainSyntax.numberOf(word), -1, -1, -1, -1);
            }
            both("policy", sessionOf(table), table, i, 1, i < 2 ? i : pick(0, 1, 1, 2, 3, 3), actor());
        }
        both("secure", sessionOf(table), table, pick(1, 1, 2));
    }

    private void grant() {
        int object = object();
        int right = right(object);
        int column = right > 2 || chance(60) ? -1 : column();
        both("grant", sessionFor(object, right, column), object, right, column, actor(), chance(60));
    }

    private void revoke() {
        List<PlainModel.Grant> all = new ArrayList<>(model.shared.grants.keySet());
        if (!all.isEmpty() && chance(85)) {
            PlainModel.Grant g = all.get(random.nextInt(all.size()));
            int session = session();
            for (int i = 0; i < 3; i++) {
                session = model.sessions[i].actor == g.gave() ? i : session;
            }
            both("revoke", session, g.object(), g.right(), g.column(), g.got(), upTo(2));
        } else {
            int object = object();
            both("revoke", session(), object, right(object), chance(60) ? -1 : column(), actor(), upTo(2));
        }
    }

    private void step() {
        int kind = random.nextInt(100);
        if (kind < 30) {
            int sheet = random.nextInt(4);
            int form = pick(0, 0, 0, 0, 1, 2, 3);
            int session = type(sheet, form);
            statement(sheet, form, chance(85) ? session : session());
        } else if (kind < 36) {
            statement(sheet(), random.nextInt(4), session());
        } else if (kind < 42) {
            grant();
        } else if (kind < 46) {
            revoke();
        } else if (kind < 58) {
            change();
        } else if (kind < 68) {
            transaction();
        } else {
            ask();
        }
    }

    private void statement(int sheet, int form, int session) {
        boolean isOwners = chance(50);
        switch (form) {
            case 0 -> {
                both("run", session, sheet);
                if (chance(50)) {
                    both("answer", session);
                }
                if (chance(30)) {
                    both("value", session, upTo(2), upTo(1));
                    both("result", session, upTo(4));
                }
            }
            case 1 -> both("view", session, free(4), sheet, isOwners);
            case 2 -> both("function", session, free(8), sheet, isOwners);
            default -> {
                int table = table();
                both("policy", sessionOf(table), table, upTo(3), sheet, pick(0, 0, 0, 1, 1, 1, 2, 3),
                        actor());
            }
        }
    }

    /** A number that no view or function bears yet, most of the time. */
    private int free(int first) {
        for (int i = 0; i < 4; i++) {
            if (!model.shared.things.containsKey(first + i) && chance(70)) {
                return i;
            }
        }
        return table();
    }

    private void change() {
        int object = object();
        int table = table();
        int session = session();
        switch (random.nextInt(14)) {
            case 0, 1, 2 -> {
                int s = Math.floorMod(session, 3);
                both("join", session, actor(), chance(80) ? model.sessions[s].actor : actor(), chance(40));
            }
            case 3 -> leave();
            case 4, 5 -> both("make", session, table, chance(2) ? pick(0, 5) : 1 + random.nextInt(4));
            case 6 -> {
                if (chance(50)) {
                    both("drop", sessionOf(object), object);
                }
            }
            case 7 -> both("own", sessionOf(object), object, actor());
            case 8, 9 -> both("secure", sessionOf(table), table, upTo(2));
            case 10 -> both("unpolicy", sessionOf(table), table, upTo(3));
            default -> both("act", session, actor());
        }
    }

    private void leave() {
        int session = session();
        List<Integer> all = new ArrayList<>(model.shared.members.keySet());
        if (all.isEmpty() || chance(10)) {
            both("leave", session, actor(), actor());
            return;
        }
        int key = all.get(random.nextInt(all.size()));
        for (int i = 0; i < 3; i++) {
            session = model.db(i).leads(model.sessions[i].actor, key % 8) ? i : session;
        }
        both("leave", session, key / 8, key % 8);
    }

    private void transaction() {
        int session = session();
        switch (random.nextInt(9)) {
            case 0, 1 -> both("begin", session);
            case 2, 3 -> both("commit", open(session));
            case 4 -> both("rollBack", open(session));
            case 5, 6 -> both("savepoint", open(session));
            default -> both("backTo", open(session), pick(0, 0, 1, 2, -1, 3));
        }
    }

    /** A session in a transaction, most of the time. */
    private int open(int otherwise) {
        for (int i = 0; i < 3; i++) {
            if (model.sessions[i].own != null && chance(70)) {
                return i;
            }
        }
        return otherwise;
    }

    private void ask() {
        int session = session();
        int object = object();
        switch (random.nextInt(24)) {
            case 0 -> both("typed", sheet());
            case 1 -> both("token", sheet(), random.nextInt(chance(70) ? 10 : 70) - 1);
            case 2 -> both("put", sheet(), random.nextInt(chance(70) ? 10 : 70) - 1,
                    chance(70) ? random.nextInt(63) : upTo(200));
            case 3, 4 -> both("fault", session, sheet(), upTo(3), chance(50));
            case 5 -> both("would", session, sheet());
            case 6 -> both("told", session, sheet(), actor());
            case 7 -> both("areAlike", session, sheet(), actor(), actor());
            case 8 -> both("circle", session, actor());
            case 9 -> both("members", session);
            case 10 -> both("ofObject", session, object, upTo(7));
            case 11 -> both("text", session, object);
            case 12 -> both("policyText", session, table(), upTo(3));
            case 13 -> both("grants", session, object);
            case 14 -> both("has", session, actor(), object, right(object), column(), chance(50));
            case 15 -> both("isKnown", session, actor(), object);
            case 16 -> both("sees", session, actor(), chance(2) ? 8 : random.nextInt(8));
            case 17 -> both("rows", session, actor(), table(), chance(50));
            case 18 -> both("call", session, table(), actor(), pick(-9999, -999, 999, 0, 1, 2, 3, 1000, -1000));
            case 19 -> both("ofSession", session, upTo(4));
            case 20 -> both("house", upTo(8));
            case 21 -> both("knock");
            case 22 -> both("wipe", sheet(), pick(1, 1, 2, 3, 60, 0, -1, Integer.MAX_VALUE));
            default -> both("say", sheet(), upTo(62), -1, 100 + random.nextInt(100), chance(5) ? upTo(250) : -1, -1);
        }
    }

    private boolean isRight(int steps) {
        begin();
        for (int i = 0; i < steps && !isWrong; i++) {
            step();
            if (chance(1)) {
                both("digest");
            }
            if (chance(1)) {
                both("isSound");
            }
        }
        both("digest");
        return !isWrong;
    }

    public static void main(String[] args) {
        int from = args.length > 0 ? Integer.parseInt(args[0]) : 0;
        int to = args.length > 1 ? Integer.parseInt(args[1]) : 400;
        int steps = args.length > 2 ? Integer.parseInt(args[2]) : 150;
        for (int seed = from; seed < to; seed++) {
            RandomTest test = new RandomTest(seed);
            if (!test.isRight(steps)) {
                System.out.println("seed " + seed + ":");
                for (String call : test.log) {
                    System.out.println("  " + call);
                    if (call.startsWith("  due")) {
                        break;
                    }
                }
                System.exit(1);
            }
        }
        if (args.length > 3) {
            ANSWERS.forEach((k, v) -> System.out.println(k + " " + v));
        }
        System.out.println("RandomTest: " + (to - from) + " runs are as the model tells");
    }
}
