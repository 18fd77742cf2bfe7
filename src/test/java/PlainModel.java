import java.util.ArrayList;
import java.util.Collections;
import java.util.Comparator;
import java.util.HashMap;
import java.util.List;
import java.util.Map;
import java.util.Set;
import java.util.TreeMap;
import java.util.TreeSet;
import java.util.function.Function;

/** What the document says, written plainly and slowly, to compare the program with. */
final class PlainModel {
    static final int NULL = -9999;

    record Grant(int object, int right, int column, int gave, int got) implements Comparable<Grant> {
        public int compareTo(Grant o) {
            return Comparator.comparingInt(Grant::object).thenComparingInt(Grant::right)
                    .thenComparingInt(Grant::column).thenComparingInt(Grant::gave)
                    .thenComparingInt(Grant::got).compare(this, o);
        }
    }

    record Policy(int kind, int actor, List<Integer> tokens) { }

    record Row(int number, List<Integer> values) { }

    static final class Thing {
        int owner;
        int columns;
        int next;
        int security;
        boolean isOwners;
        List<Row> rows = new ArrayList<>();
        TreeMap<Integer, Policy> policies = new TreeMap<>();
        List<Integer> tokens;

        Thing copy() {
            Thing t = new Thing();
            t.owner = owner;
            t.columns = columns;
            t.next = next;
            t.security = security;
            t.isOwners = isOwners;
            t.rows = new ArrayList<>(rows);
            t.policies = new TreeMap<>(policies);
            t.tokens = tokens;
            return t;
        }

        public String toString() {
            return owner + " " + columns + " " + next + " " + security + " " + isOwners + " " + rows + " "
                    + policies + " " + tokens;
        }
    }

    static final class Db {
        TreeMap<Integer, Boolean> members = new TreeMap<>();
        TreeMap<Integer, Thing> things = new TreeMap<>();
        TreeMap<Grant, Boolean> grants = new TreeMap<>();

        Db copy() {
            Db db = new Db();
            db.members.putAll(members);
            things.forEach((k, t) -> db.things.put(k, t.copy()));
            db.grants.putAll(grants);
            return db;
        }

        public String toString() {
            return members + "|" + things + "|" + grants;
        }

        Set<Integer> circle(int actor) {
            Set<Integer> all = new TreeSet<>();
            addCircle(actor, all);
            return all;
        }

        private void addCircle(int actor, Set<Integer> all) {
            if (all.add(actor)) {
                for (int key : members.keySet()) {
                    if (key / 8 == actor) {
                        addCircle(key % 8, all);
                    }
                }
            }
        }

        boolean owns(int actor, int object) {
            return things.containsKey(object) && circle(actor).contains(things.get(object).owner);
        }

        boolean leads(int actor, int group) {
            for (int other : circle(actor)) {
                if (members.getOrDefault(other * 8 + group, false)) {
                    return true;
                }
            }
            return actor == group;
        }

        boolean has(int actor, int object, int right, int column, boolean isOption, Set<Grant> of) {
            if (!things.containsKey(object)) {
                return false;
            }
            if (owns(actor, object)) {
                return true;
            }
            for (Grant g : of) {
                if (g.object == object && g.right == right && (g.column == column || g.column == -1)
                        && (!isOption || grants.get(g)) && circle(actor).contains(g.got)) {
                    return true;
                }
            }
            return false;
        }

        boolean has(int actor, int object, int right, int column, boolean isOption) {
            return has(actor, object, right, column, isOption, grants.keySet());
        }

        boolean knows(int actor, int object) {
            if (!things.containsKey(object)) {
                return false;
            }
            boolean any = owns(actor, object);
            for (int right = 0; right < 5; right++) {
                for (int column = -1; column < 4; column++) {
                    any |= has(actor, object, right, column, false);
                }
            }
            return any;
        }

        int settle() {
            Set<Grant> standing = new TreeSet<>();
            boolean more = true;
            while (more) {
                more = false;
                for (Grant g : grants.keySet()) {
                    if (!standing.contains(g) && has(g.gave, g.object, g.right, g.column, true, standing)) {
                        standing.add(g);
                        more = true;
                    }
                }
            }
            int before = grants.size();
            grants.keySet().retainAll(standing);
            return before - grants.size();
        }
    }

    static boolean fits(int object, int right, int column) {
        if (column != -1 && right > 2) {
            return false;
        }
        return switch (right) {
            case 0 -> object < 8;
            case 1, 2, 3 -> object < 4;
            default -> object >= 8;
        };
    }

    static final class Session {
        int actor;
        Db own;
        Db start;
        int began;
        List<Db> savepoints = new ArrayList<>();
        int kind;
        List<List<Integer>> rows = new ArrayList<>();
        int width;
        int changed;
        int error;
    }

    Db shared = new Db();
    final Session[] sessions = {new Session(), new Session(), new Session()};
    final List<List<Integer>> sheets = new ArrayList<>();
    int version;
    int refused;
    int conflicts;
    int knocks;
    private final Map<String, PlainSyntax> read = new HashMap<>();

    PlainModel() {
        for (int i = 0; i < 3; i++) {
            sessions[i].actor = i;
        }
        for (int i = 0; i < 4; i++) {
            sheets.add(new ArrayList<>());
        }
    }

    // ---- common

    static void index(boolean isGood) {
        if (!isGood) {
            throw new IndexOutOfBoundsException();
        }
    }

    static void argument(boolean isGood) {
        if (!isGood) {
            throw new IllegalArgumentException();
        }
    }

    static boolean in(int n, int least, int most) {
        return n >= least && n <= most;
    }

    static boolean isToken(int t) {
        return in(t, 0, 62) || in(t, 100, 199);
    }

    int refuse() {
        refused++;
        return -9;
    }

    Db db(int session) {
        return sessions[session].own != null ? sessions[session].own : shared;
    }

    PlainSyntax syntax(List<Integer> tokens, int form) {
        return read.computeIfAbsent(form + ":" + tokens, k -> new PlainSyntax(tokens, form));
    }

    /** Runs a change of the DATABASE of a session, then lets go what does not stand. */
    int change(int session, Function<Db, Integer> what) {
        Db db = db(session);
        String before = db.toString();
        int answer = what.apply(db);
        if (answer == -9) {
            return refuse();
        }
        db.settle();
        if (db == shared && !before.equals(db.toString())) {
            version++;
        }
        return answer;
    }

    // ---- sessions

    int act(int session, int actor) {
        index(in(session, 0, 2));
        argument(in(actor, 0, 7));
        if (sessions[session].own != null) {
            return refuse();
        }
        int old = sessions[session].actor;
        sessions[session].actor = actor;
        return old;
    }

    int begin(int session) {
        index(in(session, 0, 2));
        Session s = sessions[session];
        if (s.own != null) {
            return refuse();
        }
        s.own = shared.copy();
        s.start = shared.copy();
        s.began = version;
        s.savepoints.clear();
        return version;
    }

    int commit(int session) {
        index(in(session, 0, 2));
        Session s = sessions[session];
        if (s.own == null) {
            return refuse();
        }
        Db own = s.own;
        s.own = null;
        if (s.began != version) {
            conflicts++;
            return -7;
        }
        if (!own.toString().equals(shared.toString())) {
            version++;
        }
        shared = own;
        return version;
    }

    int rollBack(int session) {
        index(in(session, 0, 2));
        Session s = sessions[session];
        if (s.own == null) {
            return refuse();
        }
        s.own = null;
        return s.savepoints.size();
    }

    int savepoint(int session) {
        index(in(session, 0, 2));
        Session s = sessions[session];
        if (s.own == null || s.savepoints.size() == 3) {
            return refuse();
        }
        s.savepoints.add(s.own.copy());
        return s.savepoints.size();
    }

    int backTo(int session, int savepoint) {
        index(in(session, 0, 2));
        Session s = sessions[session];
        if (s.own == null || !in(savepoint, 0, s.savepoints.size() - 1)) {
            return refuse();
        }
        s.own = s.savepoints.get(savepoint).copy();
        s.savepoints.subList(savepoint + 1, s.savepoints.size()).clear();
        return savepoint + 1;
    }

    // ---- sheets

    int say(int sheet, int a, int b, int c, int d, int e) {
        index(in(sheet, 0, 3));
        List<Integer> more = new ArrayList<>(List.of(a, b, c, d, e));
        for (int t : more) {
            argument(t == -1 || isToken(t));
        }
        more.removeIf(t -> t == -1);
        if (sheets.get(sheet).size() + more.size() > 60) {
            throw new IllegalStateException();
        }
        sheets.get(sheet).addAll(more);
        return sheets.get(sheet).size();
    }

    int wipe(int sheet, int many) {
        index(in(sheet, 0, 3));
        argument(many >= 1);
        List<Integer> typed = sheets.get(sheet);
        typed.subList((int) Math.max(0L, (long) typed.size() - many), typed.size()).clear();
        return typed.size();
    }

    int put(int sheet, int place, int token) {
        index(in(sheet, 0, 3) && in(place, 0, sheets.get(sheet).size() - 1));
        argument(isToken(token));
        return sheets.get(sheet).set(place, token);
    }

    static final String[] SAMPLES = {
        "select * from T0",
        "select c0 , c1 + x from T0 where c1 <= y",
        "select a c0 , b c1 from T0 , T1 where a c0 = b c0",
        "select c0 , count ( * ) , sum ( c1 ) from T0 group c0",
        "select c0 from T0 where exists ( select c0 from T1 where c0 = outer c0 )",
        "insert T0 c0 = me , c1 = x , c2 = y",
        "update T0 set c1 = c1 + x where c0 = me or c1 = y",
        "delete T0 where c1 < x",
        "c0 = me or member A5",
        "F0 ( c1 ) <= x and c0 is not null",
        "p * x + me",
        "select distinct c0 , F0 ( c0 ) from V0 where not c0 in ( x , null )",
    };

    int sample(int sheet, int sample, int x, int y) {
        index(in(sheet, 0, 3));
        argument(in(sample, 0, 11) && in(x, 0, 99) && in(y, 0, 99));
        List<Integer> typed = sheets.get(sheet);
        typed.clear();
        for (String word : SAMPLES[sample].split(" ")) {
            typed.add(word.equals("x") ? 100 + x : word.equals("y") ? 100 + y : PlainSyntax.numberOf(word));
        }
        return typed.size();
    }

    String typed(int sheet) {
        index(in(sheet, 0, 3));
        return PlainSyntax.textOf(sheets.get(sheet));
    }

    int token(int sheet, int place) {
        index(in(sheet, 0, 3) && in(place, 0, sheets.get(sheet).size() - 1));
        return sheets.get(sheet).get(place);
    }

    int fault(int session, int sheet, int form, boolean isPlace) {
        index(in(session, 0, 2) && in(sheet, 0, 3));
        argument(in(form, 0, 3));
        int number = form == 1 || form == 2 ? 3 : 4;
        int[] error = error(db(session), sheets.get(sheet), form, number, 0, sessions[session].actor);
        return isPlace ? error[0] : error[1];
    }

    // ---- members, objects

    int join(int session, int member, int group, boolean isAdmin) {
        index(in(session, 0, 2));
        argument(in(member, 0, 7) && in(group, 0, 7));
        return change(session, db -> {
            if (!db.leads(sessions[session].actor, group) || db.circle(group).contains(member)) {
                return -9;
            }
            db.members.put(member * 8 + group, isAdmin);
            return db.members.size();
        });
    }

    int leave(int session, int member, int group) {
        index(in(session, 0, 2));
        argument(in(member, 0, 7) && in(group, 0, 7));
        int actor = sessions[session].actor;
        return change(session, db -> {
            if (!db.members.containsKey(member * 8 + group) || !(actor == member || db.leads(actor, group))) {
                return -9;
            }
            db.members.remove(member * 8 + group);
            return db.settle();
        });
    }

    int make(int session, int table, int columns) {
        index(in(session, 0, 2) && in(table, 0, 3));
        argument(in(columns, 1, 4));
        return change(session, db -> {
            if (db.things.containsKey(table)) {
                return -9;
            }
            Thing t = new Thing();
            t.owner = sessions[session].actor;
            t.columns = columns;
            db.things.put(table, t);
            return db.things.size();
        });
    }

    int establish(int session, int object, int form, int number, int sheet, boolean isOwners) {
        int actor = sessions[session].actor;
        return change(session, db -> {
            if (db.things.containsKey(object)) {
                return -9;
            }
            List<Integer> tokens = List.copyOf(sheets.get(sheet));
            int[] error = error(db, tokens, form, number, -1, actor);
            if (error[1] != 0) {
                return -10 - error[1];
            }
            Thing t = new Thing();
            t.owner = actor;
            t.tokens = tokens;
            t.isOwners = isOwners;
            db.things.put(object, t);
            return form == 1 ? widthOfView(db, number, actor) : tokens.size();
        });
    }

    int view(int session, int view, int sheet, boolean isOwners) {
        index(in(session, 0, 2) && in(view, 0, 3) && in(sheet, 0, 3));
        return establish(session, 4 + view, 1, view, sheet, isOwners);
    }

    int function(int session, int function, int sheet, boolean isOwners) {
        index(in(session, 0, 2) && in(function, 0, 3) && in(sheet, 0, 3));
        return establish(session, 8 + function, 2, function, sheet, isOwners);
    }

    int drop(int session, int object) {
        index(in(session, 0, 2) && in(object, 0, 11));
        return change(session, db -> {
            if (!db.owns(sessions[session].actor, object)) {
                return -9;
            }
            db.things.remove(object);
            int before = db.grants.size();
            db.grants.keySet().removeIf(g -> g.object == object);
            return before - db.grants.size();
        });
    }

    int own(int session, int object, int actor) {
        index(in(session, 0, 2) && in(object, 0, 11));
        argument(in(actor, 0, 7));
        return change(session, db -> {
            if (!db.owns(sessions[session].actor, object)) {
                return -9;
            }
            db.things.get(object).owner = actor;
            return db.settle();
        });
    }

    int secure(int session, int table, int security) {
        index(in(session, 0, 2) && in(table, 0, 3));
        argument(in(security, 0, 2));
        return change(session, db -> {
            if (!db.owns(sessions[session].actor, table)) {
                return -9;
            }
            int old = db.things.get(table).security;
            db.things.get(table).security = security;
            return old;
        });
    }

    int policy(int session, int table, int policy, int sheet, int kind, int actor) {
        index(in(session, 0, 2) && in(table, 0, 3) && in(policy, 0, 3) && in(sheet, 0, 3));
        argument(in(kind, 0, 3) && in(actor, 0, 7));
        int by = sessions[session].actor;
        return change(session, db -> {
            if (!db.owns(by, table)) {
                return -9;
            }
            List<Integer> tokens = List.copyOf(sheets.get(sheet));
            int[] error = error(db, tokens, 3, 4, table, by);
            if (error[1] != 0) {
                return -10 - error[1];
            }
            db.things.get(table).policies.put(policy, new Policy(kind, actor, tokens));
            return db.things.get(table).policies.size();
        });
    }

    int unpolicy(int session, int table, int policy) {
        index(in(session, 0, 2) && in(table, 0, 3) && in(policy, 0, 3));
        return change(session, db -> {
            if (!db.owns(sessions[session].actor, table)
                    || db.things.get(table).policies.remove(policy) == null) {
                return -9;
            }
            return db.things.get(table).policies.size();
        });
    }

    // ---- rights

    int grant(int session, int object, int right, int column, int actor, boolean isOption) {
        index(in(session, 0, 2) && in(object, 0, 11));
        argument(in(right, 0, 4) && in(column, -1, 3) && in(actor, 0, 7));
        int by = sessions[session].actor;
        return change(session, db -> {
            if (!fits(object, right, column) || !db.has(by, object, right, column, true) || actor == by) {
                return -9;
            }
            Grant g = new Grant(object, right, column, by, actor);
            if (db.grants.size() == 40 && !db.grants.containsKey(g)) {
                throw new IllegalStateException();
            }
            db.grants.put(g, isOption || db.grants.getOrDefault(g, false));
            return (int) db.grants.keySet().stream().filter(x -> x.object == object).count();
        });
    }

    int revoke(int session, int object, int right, int column, int actor, int way) {
        index(in(session, 0, 2) && in(object, 0, 11));
        argument(in(right, 0, 4) && in(column, -1, 3) && in(actor, 0, 7) && in(way, 0, 2));
        return change(session, db -> {
            Grant g = new Grant(object, right, column, sessions[session].actor, actor);
            if (!db.grants.containsKey(g) || way == 2 && !db.grants.get(g)) {
                return -9;
            }
            Db trial = db.copy();
            int gone = revoke(trial, g, way);
            if (way == 0 && gone > 1) {
                return -9;
            }
            return revoke(db, g, way);
        });
    }

    private static int revoke(Db db, Grant g, int way) {
        if (way == 2) {
            db.grants.put(g, false);
            return db.settle();
        }
        db.grants.remove(g);
        return 1 + db.settle();
    }

    // ---- errors

    static final class Around {
        PlainSyntax.Node query;
        Around outer;
        boolean isInner;
    }

    /** A text that is looked at for errors. */
    final class Check {
        final Db db;
        final int form;
        final int number;
        final int table;
        final int runner;
        final List<int[]> errors = new ArrayList<>();
        PlainSyntax.Node root;
        int calls;

        Check(Db db, int form, int number, int table, int runner) {
            this.db = db;
            this.form = form;
            this.number = number;
            this.table = table;
            this.runner = runner;
        }

        void add(int place, int error) {
            errors.add(new int[] {place, error});
        }

        void whole(PlainSyntax.Node node) {
            root = node;
            switch (node.kind) {
                case "query" -> query(node, null, false, false);
                case "insert", "update" -> {
                    if (!db.knows(runner, node.number)) {
                        add(node.place + 1, 2);
                    }
                    List<Integer> told = new ArrayList<>();
                    for (PlainSyntax.Node set : node.kids) {
                        set(node, set, told);
                    }
                    if (node.where != null) {
                        walk(node.where, null, 0);
                    }
                }
                case "delete" -> {
                    if (!db.knows(runner, node.number)) {
                        add(node.place + 1, 2);
                    } else if (!db.has(runner, node.number, 3, -1, false)) {
                        add(node.place + 1, 3);
                    }
                    if (node.where != null) {
                        walk(node.where, null, 0);
                    }
                }
                default -> walk(node, null, 0);
            }
        }

        void set(PlainSyntax.Node statement, PlainSyntax.Node set, List<Integer> told) {
            int object = statement.number;
            int right = statement.kind.equals("insert") ? 1 : 2;
            boolean isThere = db.things.containsKey(object) && set.number < db.things.get(object).columns;
            boolean sees = isThere && db.has(runner, object, 0, set.number, false);
            boolean has = isThere && db.has(runner, object, right, set.number, false);
            if (!isThere || !sees && !has) {
                add(set.place, 2);
            }
            if (sees && !has) {
                add(set.place, 3);
            }
            if (told.contains(set.number)) {
                add(set.place, 4);
            }
            told.add(set.number);
            walk(set.kids.get(0), null, 0);
        }

        /** The columns of a source that the runner sees, rising. */
        List<Integer> columns(PlainSyntax.Node source) {
            if (source.number >= 4 && source.number - 4 >= number && form == 1) {
                return List.of();
            }
            return seen(db, source.number, runner);
        }

        void query(PlainSyntax.Node q, Around outer, boolean isFactor, boolean isWithin) {
            if (form >= 2) {
                add(q.place, 4);
            }
            boolean isInner = outer != null || isWithin;
            if (outer != null && outer.isInner) {
                add(q.place, 4);
            }
            if (isFactor) {
                int width = q.what.size();
                if (q.star) {
                    width = 0;
                    for (PlainSyntax.Node source : q.sources) {
                        width += columns(source).size();
                    }
                }
                if (width != 1) {
                    add(q.place, 4);
                }
            }
            Around around = new Around();
            around.query = q;
            around.outer = outer;
            around.isInner = isInner;
            for (int i = 0; i < q.sources.size(); i++) {
                PlainSyntax.Node source = q.sources.get(i);
                boolean isView = source.number >= 4;
                boolean isKnown = db.knows(runner, source.number);
                boolean isHigh = isView && form == 1 && source.number - 4 >= number;
                boolean isBroken = isView && isKnown && !isHigh && widthOfView(db, source.number - 4, runner) < 0;
                if (!isKnown || isHigh || isBroken) {
                    add(source.place, 2);
                } else if (columns(source).isEmpty()) {
                    add(source.place, 3);
                }
                if (isInner && (isView || i == 1)) {
                    add(source.place, 4);
                }
            }
            if (q.star && isGrouped(q)) {
                add(q.starPlace, 4);
            }
            for (PlainSyntax.Node expr : q.what) {
                walk(expr, around, 1);
            }
            if (q.where != null) {
                walk(q.where, around, 0);
            }
            if (q.group != null) {
                walk(q.group, around, 3);
            }
        }

        /** Zones: 0 elsewhere, 1 in what, 2 in an aggregate, 3 behind group. */
        void walk(PlainSyntax.Node node, Around around, int zone) {
            int inside = zone;
            switch (node.kind) {
                case "ref" -> ref(node, around, zone);
                case "p" -> {
                    if (form != 2) {
                        add(node.place, 4);
                    }
                }
                case "call" -> {
                    calls++;
                    if (!db.knows(runner, 8 + node.number) || form == 2 && node.number >= number) {
                        add(node.place, 2);
                    }
                    if (form == 2 && calls > 1) {
                        add(node.place, 4);
                    }
                }
                case "aggregate" -> {
                    if (around == null || zone != 1) {
                        add(node.place, 4);
                    }
                    inside = zone == 1 ? 2 : zone;
                }
                default -> { }
            }
            boolean isWithin = root.kind.equals("insert") || root.kind.equals("update")
                    || root.kind.equals("delete");
            if (node.kind.equals("subquery")) {
                query(node.kids.get(0), around, true, isWithin);
            } else if (node.kind.equals("exists")) {
                query(node.kids.get(0), around, false, isWithin);
            } else {
                for (PlainSyntax.Node kid : node.kids) {
                    walk(kid, around, inside);
                }
            }
        }

        void ref(PlainSyntax.Node ref, Around around, int zone) {
            if (!columnsOfRef(ref, around).contains(ref.number)) {
                add(ref.place, 2);
            }
            if (around == null) {
                return;
            }
            if (zone == 3 && ref.flag) {
                add(ref.place, 4);
            }
            if (zone == 1 && !ref.flag && isGrouped(around.query)) {
                PlainSyntax.Node group = around.query.group;
                boolean isSame = group != null && !group.flag && group.word.equals(ref.word)
                        && group.number == ref.number;
                if (!isSame) {
                    add(ref.place, 4);
                }
            }
        }

        List<Integer> columnsOfRef(PlainSyntax.Node ref, Around around) {
            int source = ref.word.equals("b") ? 1 : 0;
            boolean isOfTable = root.kind.equals("update") || root.kind.equals("delete");
            PlainSyntax.Node query;
            if (ref.flag) {
                if (around == null) {
                    return List.of();
                }
                if (around.outer == null) {
                    return isOfTable && source == 0 ? seen(db, root.number, runner) : List.of();
                }
                query = around.outer.query;
            } else {
                if (around == null) {
                    if (source == 1) {
                        return List.of();
                    }
                    if (form == 3) {
                        List<Integer> all = new ArrayList<>();
                        for (int i = 0; db.things.containsKey(table) && i < db.things.get(table).columns; i++) {
                            all.add(i);
                        }
                        return all;
                    }
                    return isOfTable ? seen(db, root.number, runner) : List.of();
                }
                query = around.query;
            }
            return source < query.sources.size() ? columns(query.sources.get(source)) : List.of();
        }
    }

    static boolean isGrouped(PlainSyntax.Node query) {
        boolean is = query.group != null;
        for (PlainSyntax.Node expr : query.what) {
            is |= hasAggregate(expr);
        }
        return is;
    }

    static boolean hasAggregate(PlainSyntax.Node node) {
        if (node.kind.equals("subquery")) {
            return false;
        }
        boolean is = node.kind.equals("aggregate");
        for (PlainSyntax.Node kid : node.kids) {
            is |= hasAggregate(kid);
        }
        return is;
    }

    /** Place and number; -1 and 0 without one. */
    int[] error(Db db, List<Integer> tokens, int form, int number, int table, int runner) {
        PlainSyntax syntax = syntax(tokens, form);
        if (syntax.tree == null) {
            return new int[] {syntax.fault, 1};
        }
        Check check = new Check(db, form, number, table, runner);
        check.whole(syntax.tree);
        return check.errors.stream().min(Comparator.<int[]>comparingInt(e -> e[0])
                .thenComparingInt(e -> e[1])).orElse(new int[] {-1, 0});
    }

    /** -1 if it is broken. */
    int widthOfView(Db db, int view, int runner) {
        Thing v = db.things.get(4 + view);
        if (v == null) {
            return -1;
        }
        int own = v.isOwners ? v.owner : runner;
        if (error(db, v.tokens, 1, view, -1, own)[1] != 0) {
            return -1;
        }
        PlainSyntax.Node q = syntax(v.tokens, 1).tree;
        int width = q.what.size();
        if (q.star) {
            width = 0;
            for (PlainSyntax.Node source : q.sources) {
                width += seen(db, source.number, own).size();
            }
        }
        return Math.min(4, width);
    }

    List<Integer> seen(Db db, int object, int runner) {
        List<Integer> all = new ArrayList<>();
        if (db.things.containsKey(object)) {
            int width = object < 4 ? db.things.get(object).columns : widthOfView(db, object - 4, runner);
            for (int i = 0; i < width; i++) {
                if (db.has(runner, object, 0, i, false)) {
                    all.add(i);
                }
            }
        }
        return all;
    }

    // ---- meaning

    /** Rows of a source: each a list of values by columns. */
    static final class Env {
        int me;
        int caller;
        int p = NULL;
        List<List<Integer>> row;
        List<List<List<Integer>>> group;
        Env outer;
    }

    final class Meaning {
        final Db db;
        final int asker;

        Meaning(Db db, int asker) {
            this.db = db;
            this.asker = asker;
        }

        boolean may(int runner, int table, List<Integer> values, boolean isWrite) {
            Thing t = db.things.get(table);
            if (t.security == 0 || t.security == 1 && db.owns(runner, table)) {
                return true;
            }
            boolean isLet = false;
            for (Policy p : t.policies.values()) {
                if (p.kind % 2 != (isWrite ? 1 : 0) || !db.circle(runner).contains(p.actor)) {
                    continue;
                }
                Env env = new Env();
                env.me = runner;
                env.caller = t.owner;
                env.row = List.of(values);
                boolean isTrue = Boolean.TRUE.equals(truth(syntax(p.tokens, 3).tree, env));
                if (p.kind < 2 && isTrue) {
                    isLet = true;
                }
                if (p.kind >= 2 && !isTrue) {
                    return false;
                }
            }
            return isLet;
        }

        List<List<Integer>> rowsOf(int object, int runner) {
            Thing t = db.things.get(object);
            List<List<Integer>> rows = new ArrayList<>();
            if (object < 4) {
                for (Row r : t.rows) {
                    if (may(runner, object, r.values, false)) {
                        rows.add(r.values);
                    }
                }
                return rows;
            }
            Env env = new Env();
            env.me = t.isOwners ? t.owner : runner;
            env.caller = env.me;
            List<List<Integer>> all = tell(syntax(t.tokens, 1).tree, env, null);
            for (List<Integer> r : all.subList(0, Math.min(12, all.size()))) {
                rows.add(r.subList(0, Math.min(4, r.size())));
            }
            return rows;
        }

        List<List<Integer>> tell(PlainSyntax.Node q, Env like, Env outer) {
            List<List<List<Integer>>> pairs = new ArrayList<>();
            for (List<Integer> a : rowsOf(q.sources.get(0).number, like.me)) {
                if (q.sources.size() == 1) {
                    pairs.add(List.of(a));
                } else {
                    for (List<Integer> b : rowsOf(q.sources.get(1).number, like.me)) {
                        pairs.add(List.of(a, b));
                    }
                }
            }
            Env env = new Env();
            env.me = like.me;
            env.caller = like.caller;
            env.p = like.p;
            env.outer = outer;
            List<List<List<Integer>>> kept = new ArrayList<>();
            for (List<List<Integer>> pair : pairs) {
                env.row = pair;
                if (q.where == null || Boolean.TRUE.equals(truth(q.where, env))) {
                    kept.add(pair);
                }
            }
            List<List<Integer>> told = new ArrayList<>();
            if (isGrouped(q)) {
                Map<Integer, List<List<List<Integer>>>> groups = new java.util.LinkedHashMap<>();
                if (q.group == null) {
                    groups.put(0, kept);
                } else {
                    for (List<List<Integer>> pair : kept) {
                        env.row = pair;
                        groups.computeIfAbsent(value(q.group, env), k -> new ArrayList<>()).add(pair);
                    }
                }
                for (List<List<List<Integer>>> group : groups.values()) {
                    env.group = group;
                    env.row = group.isEmpty() ? null : group.get(0);
                    told.add(tellOne(q, env));
                }
            } else {
                for (List<List<Integer>> pair : kept) {
                    env.row = pair;
                    told.add(tellOne(q, env));
                }
            }
            if (q.flag) {
                told = new ArrayList<>(new java.util.LinkedHashSet<>(told));
            }
            told.sort((x, y) -> {
                for (int i = 0; i < x.size(); i++) {
                    if (!x.get(i).equals(y.get(i))) {
                        return Integer.compare(x.get(i), y.get(i));
                    }
                }
                return 0;
            });
            return told;
        }

        List<Integer> tellOne(PlainSyntax.Node q, Env env) {
            List<Integer> row = new ArrayList<>();
            if (q.star) {
                for (int i = 0; i < q.sources.size(); i++) {
                    for (int column : seen(db, q.sources.get(i).number, env.me)) {
                        row.add(env.row.get(i).get(column));
                    }
                }
            }
            for (PlainSyntax.Node expr : q.what) {
                row.add(value(expr, env));
            }
            return row;
        }

        int call(int function, int caller, int p) {
            Thing f = db.things.get(8 + function);
            if (!db.knows(caller, 8 + function)) {
                return NULL;
            }
            Env env = new Env();
            env.me = f.isOwners ? f.owner : caller;
            env.caller = env.me;
            env.p = p;
            if (error(db, f.tokens, 2, function, -1, env.me)[1] != 0) {
                return NULL;
            }
            return value(syntax(f.tokens, 2).tree, env);
        }

        int bound(long n) {
            return n < -999 || n > 999 ? NULL : (int) n;
        }

        int value(PlainSyntax.Node n, Env env) {
            switch (n.kind) {
                case "number":
                    return n.number;
                case "null":
                    return NULL;
                case "me":
                    return env.me;
                case "asker":
                    return asker;
                case "p":
                    return env.p;
                case "ref":
                    Env of = n.flag ? env.outer : env;
                    return of.row == null ? NULL : of.row.get(n.word.equals("b") ? 1 : 0).get(n.number);
                case "minus":
                    int v = value(n.kids.get(0), env);
                    return v == NULL ? NULL : -v;
                case "chain":
                    int a = value(n.kids.get(0), env);
                    int b = value(n.kids.get(1), env);
                    if (a == NULL || b == NULL) {
                        return NULL;
                    }
                    return bound(n.word.equals("+") ? a + b : n.word.equals("-") ? a - b : a * b);
                case "call":
                    return call(n.number, env.caller, value(n.kids.get(0), env));
                case "subquery":
                    List<List<Integer>> rows = tell(n.kids.get(0), env, env);
                    return rows.isEmpty() ? NULL : rows.get(0).get(0);
                case "aggregate":
                    return aggregate(n, env);
                default:
                    throw new AssertionError(n.kind);
            }
        }

        int aggregate(PlainSyntax.Node n, Env env) {
            if (n.word.equals("rows")) {
                return env.group.size();
            }
            List<Integer> values = new ArrayList<>();
            List<List<Integer>> held = env.row;
            for (List<List<Integer>> pair : env.group) {
                env.row = pair;
                int v = value(n.kids.get(0), env);
                if (v != NULL) {
                    values.add(v);
                }
            }
            env.row = held;
            if (n.word.equals("count")) {
                return values.size();
            }
            if (values.isEmpty()) {
                return NULL;
            }
            return switch (n.word) {
                case "sum" -> bound(values.stream().mapToLong(x -> x).sum());
                case "min" -> Collections.min(values);
                default -> Collections.max(values);
            };
        }

        Boolean truth(PlainSyntax.Node n, Env env) {
            switch (n.kind) {
                case "chain":
                    Boolean a = truth(n.kids.get(0), env);
                    Boolean b = truth(n.kids.get(1), env);
                    boolean strong = n.word.equals("or");
                    if (a != null && a == strong || b != null && b == strong) {
                        return strong;
                    }
                    return a == null || b == null ? null : Boolean.valueOf(!strong);
                case "not":
                    Boolean t = truth(n.kids.get(0), env);
                    return t == null ? null : Boolean.valueOf(!t);
                case "exists":
                    return !tell(n.kids.get(0), env, env).isEmpty();
                case "member":
                    return db.circle(env.me).contains(n.number);
                case "isnull":
                    return value(n.kids.get(0), env) == NULL != n.flag;
                case "compare":
                    return compare(n.word, value(n.kids.get(0), env), value(n.kids.get(1), env));
                case "in":
                    Boolean any = false;
                    for (PlainSyntax.Node item : n.kids.subList(1, n.kids.size())) {
                        Boolean same = compare("=", value(n.kids.get(0), env), value(item, env));
                        any = Boolean.TRUE.equals(any) || Boolean.TRUE.equals(same) ? Boolean.TRUE
                                : any == null || same == null ? null : Boolean.FALSE;
                    }
                    return any == null ? null : Boolean.valueOf(any != n.flag);
                default:
                    throw new AssertionError(n.kind);
            }
        }

        Boolean compare(String sign, int a, int b) {
            if (a == NULL || b == NULL) {
                return null;
            }
            return switch (sign) {
                case "=" -> a == b;
                case "<>" -> a != b;
                case "<" -> a < b;
                default -> a <= b;
            };
        }

        // ---- statements that change; -15 and -16 as run() tells them

        int change(PlainSyntax.Node s) {
            Thing t = db.things.get(s.number);
            Env env = new Env();
            env.me = asker;
            env.caller = asker;
            if (s.kind.equals("insert")) {
                List<Integer> values = new ArrayList<>(Collections.nCopies(t.columns, NULL));
                for (PlainSyntax.Node set : s.kids) {
                    values.set(set.number, value(set.kids.get(0), env));
                }
                if (!may(asker, s.number, values, true)) {
                    return -15;
                }
                if (t.rows.size() == 8) {
                    return -16;
                }
                t.rows.add(new Row(t.next++, values));
                return 1;
            }
            List<Row> after = new ArrayList<>();
            int many = 0;
            boolean isBarred = false;
            for (Row r : t.rows) {
                env.row = List.of(r.values);
                boolean isMeant = may(asker, s.number, r.values, false) && may(asker, s.number, r.values, true)
                        && (s.where == null || Boolean.TRUE.equals(truth(s.where, env)));
                if (!isMeant) {
                    after.add(r);
                    continue;
                }
                many++;
                if (s.kind.equals("update")) {
                    List<Integer> values = new ArrayList<>(r.values);
                    for (PlainSyntax.Node set : s.kids) {
                        values.set(set.number, value(set.kids.get(0), env));
                    }
                    isBarred |= !may(asker, s.number, values, true);
                    after.add(new Row(r.number, values));
                }
            }
            if (isBarred) {
                return -15;
            }
            t.rows = after;
            return many;
        }
    }

    // ---- statements

    int run(int session, int sheet) {
        index(in(session, 0, 2) && in(sheet, 0, 3));
        Session s = sessions[session];
        List<Integer> tokens = sheets.get(sheet);
        s.rows = new ArrayList<>();
        s.width = 0;
        s.changed = 0;
        s.error = error(db(session), tokens, 0, 4, -1, s.actor)[1];
        if (s.error != 0) {
            s.kind = 3;
            return -10 - s.error;
        }
        PlainSyntax.Node tree = syntax(tokens, 0).tree;
        if (tree.kind.equals("query")) {
            s.kind = 1;
            Env env = new Env();
            env.me = s.actor;
            env.caller = s.actor;
            s.rows = new Meaning(db(session), s.actor).tell(tree, env, null);
            s.width = tree.what.size();
            if (tree.star) {
                for (PlainSyntax.Node source : tree.sources) {
                    s.width += seen(db(session), source.number, s.actor).size();
                }
            }
            return s.rows.size();
        }
        int many = change(session, db -> new Meaning(db, s.actor).change(tree));
        s.kind = many < 0 ? 3 : 2;
        s.error = many < 0 ? -10 - many : 0;
        s.changed = Math.max(0, many);
        return many;
    }

    int result(int session, int what) {
        index(in(session, 0, 2));
        argument(in(what, 0, 4));
        Session s = sessions[session];
        return new int[] {s.kind, s.rows.size(), s.width, s.changed, s.error}[what];
    }

    static String value(int v) {
        return v == NULL ? "-" : Integer.toString(v);
    }

    static String rowText(List<Integer> row) {
        return String.join(",", row.stream().map(PlainModel::value).toList());
    }

    static String rowsText(List<List<Integer>> rows) {
        return String.join(";", rows.stream().map(PlainModel::rowText).toList());
    }

    String answer(int session) {
        index(in(session, 0, 2));
        return rowsText(sessions[session].rows);
    }

    int value(int session, int row, int column) {
        index(in(session, 0, 2));
        Session s = sessions[session];
        index(in(row, 0, s.rows.size() - 1) && in(column, 0, s.width - 1));
        return s.rows.get(row).get(column);
    }

    String would(int session, int sheet) {
        index(in(session, 0, 2) && in(sheet, 0, 3));
        return told(session, sheet, sessions[session].actor);
    }

    String told(int session, int sheet, int actor) {
        index(in(session, 0, 2) && in(sheet, 0, 3));
        argument(in(actor, 0, 7));
        return told(db(session), sheet, actor);
    }

    private String told(Db db, int sheet, int actor) {
        List<Integer> tokens = sheets.get(sheet);
        if (error(db, tokens, 0, 4, -1, actor)[1] != 0) {
            return "";
        }
        PlainSyntax.Node tree = syntax(tokens, 0).tree;
        if (!tree.kind.equals("query")) {
            return "";
        }
        Env env = new Env();
        env.me = actor;
        env.caller = actor;
        return rowsText(new Meaning(db, actor).tell(tree, env, null));
    }

    boolean areAlike(int session, int sheet, int actor, int other) {
        index(in(session, 0, 2) && in(sheet, 0, 3));
        argument(in(actor, 0, 7) && in(other, 0, 7));
        int[] a = error(db(session), sheets.get(sheet), 0, 4, -1, actor);
        int[] b = error(db(session), sheets.get(sheet), 0, 4, -1, other);
        return told(session, sheet, actor).equals(told(session, sheet, other)) && a[0] == b[0] && a[1] == b[1];
    }

    // ---- what is asked

    static int setOf(Iterable<Integer> numbers) {
        int set = 0;
        for (int n : numbers) {
            set += 1 << n;
        }
        return set;
    }

    int circle(int session, int actor) {
        index(in(session, 0, 2));
        argument(in(actor, 0, 7));
        return setOf(db(session).circle(actor));
    }

    String members(int session) {
        index(in(session, 0, 2));
        List<String> all = new ArrayList<>();
        db(session).members.forEach((k, isAdmin) -> all.add(k / 8 + ">" + k % 8 + (isAdmin ? "!" : "")));
        return String.join(" ", all);
    }

    int ofObject(int session, int object, int what) {
        index(in(session, 0, 2) && in(object, 0, 11));
        argument(in(what, 0, 7));
        Thing t = db(session).things.get(object);
        if (t == null) {
            return -1;
        }
        boolean isTable = object < 4;
        return switch (what) {
            case 0 -> t.owner;
            case 1 -> (int) db(session).grants.keySet().stream().filter(g -> g.object == object).count();
            case 2 -> isTable ? t.columns : -1;
            case 3 -> isTable ? t.rows.size() : -1;
            case 4 -> isTable ? t.next : -1;
            case 5 -> isTable ? t.security : -1;
            case 6 -> isTable ? setOf(t.policies.keySet()) : -1;
            default -> isTable ? -1 : t.isOwners ? 1 : 0;
        };
    }

    String text(int session, int object) {
        index(in(session, 0, 2) && in(object, 0, 11));
        Thing t = db(session).things.get(object);
        if (t == null) {
            return "";
        }
        if (object >= 4) {
            return PlainSyntax.textOf(t.tokens);
        }
        return String.join(";", t.rows.stream().map(r -> r.number + ":" + rowText(r.values)).toList());
    }

    String policyText(int session, int table, int policy) {
        index(in(session, 0, 2) && in(table, 0, 3) && in(policy, 0, 3));
        Thing t = db(session).things.get(table);
        Policy p = t == null ? null : t.policies.get(policy);
        return p == null ? "" : p.kind + "," + p.actor + ":" + PlainSyntax.textOf(p.tokens);
    }

    String grants(int session, int object) {
        index(in(session, 0, 2) && in(object, 0, 11));
        List<String> all = new ArrayList<>();
        db(session).grants.forEach((g, isOption) -> {
            if (g.object == object) {
                all.add(g.right + "." + (g.column == -1 ? "*" : g.column) + ":" + g.gave + ">" + g.got
                        + (isOption ? "!" : ""));
            }
        });
        return String.join(" ", all);
    }

    boolean has(int session, int actor, int object, int right, int column, boolean isOption) {
        index(in(session, 0, 2) && in(object, 0, 11));
        argument(in(actor, 0, 7) && in(right, 0, 4) && in(column, -1, 3));
        return fits(object, right, column) && db(session).has(actor, object, right, column, isOption);
    }

    boolean isKnown(int session, int actor, int object) {
        index(in(session, 0, 2) && in(object, 0, 11));
        argument(in(actor, 0, 7));
        return db(session).knows(actor, object);
    }

    int sees(int session, int actor, int object) {
        index(in(session, 0, 2) && in(object, 0, 7));
        argument(in(actor, 0, 7));
        return setOf(seen(db(session), object, actor));
    }

    String rows(int session, int actor, int table, boolean isWrite) {
        index(in(session, 0, 2) && in(table, 0, 3));
        argument(in(actor, 0, 7));
        List<String> all = new ArrayList<>();
        Thing t = db(session).things.get(table);
        if (t != null) {
            for (Row r : t.rows) {
                if (new Meaning(db(session), actor).may(actor, table, r.values, isWrite)) {
                    all.add(Integer.toString(r.number));
                }
            }
        }
        return String.join(" ", all);
    }

    int call(int session, int function, int actor, int p) {
        index(in(session, 0, 2) && in(function, 0, 3));
        argument(in(actor, 0, 7) && (p == NULL || in(p, -999, 999)));
        return new Meaning(db(session), actor).call(function, actor, p);
    }

    int ofSession(int session, int what) {
        index(in(session, 0, 2));
        argument(in(what, 0, 4));
        Session s = sessions[session];
        boolean isOpen = s.own != null;
        return switch (what) {
            case 0 -> s.actor;
            case 1 -> isOpen ? 1 : 0;
            case 2 -> isOpen ? s.savepoints.size() : 0;
            case 3 -> isOpen ? s.began : -1;
            default -> isOpen && !s.own.toString().equals(s.start.toString()) ? 1 : 0;
        };
    }

    // ---- the whole

    int knock() {
        return ++knocks;
    }

    int house(int what) {
        argument(in(what, 0, 8));
        return switch (what) {
            case 0 -> version;
            case 1 -> refused;
            case 2 -> conflicts;
            case 3 -> knocks;
            case 4 -> shared.things.size();
            case 5 -> shared.grants.size();
            case 6 -> shared.members.size();
            case 7 -> shared.things.values().stream().mapToInt(t -> t.rows.size()).sum();
            default -> shared.things.values().stream().mapToInt(t -> t.policies.size()).sum();
        };
    }

    boolean isSound() {
        for (int i = 0; i < 3; i++) {
            for (int actor = 0; actor < 8; actor++) {
                Db less = db(i).copy();
                for (int table = 0; table < 4; table++) {
                    Thing t = less.things.get(table);
                    if (t == null) {
                        continue;
                    }
                    List<Row> kept = new ArrayList<>();
                    List<Integer> columns = seen(db(i), table, actor);
                    for (Row r : t.rows) {
                        if (new Meaning(db(i), actor).may(actor, table, r.values, false)) {
                            List<Integer> values = new ArrayList<>();
                            for (int c = 0; c < t.columns; c++) {
                                values.add(columns.contains(c) ? r.values.get(c) : NULL);
                            }
                            kept.add(new Row(r.number, values));
                        }
                    }
                    t.rows = kept;
                    t.security = 0;
                }
                for (int sheet = 0; sheet < 4; sheet++) {
                    boolean isOfTables = sheets.get(sheet).stream().noneMatch(t -> in(t, 45, 48));
                    if (isOfTables && !told(db(i), sheet, actor).equals(told(less, sheet, actor))) {
                        return false;
                    }
                }
            }
        }
        return true;
    }

    long digest() {
        long[] d = {7677};
        java.util.function.LongConsumer mix = v -> d[0] = d[0] * 31 + v;
        for (int what = 0; what <= 8; what++) {
            mix.accept(house(what));
        }
        for (int s = 0; s < 3; s++) {
            for (int what = 0; what <= 4; what++) {
                mix.accept(ofSession(s, what));
            }
            for (int what = 0; what <= 4; what++) {
                mix.accept(result(s, what));
            }
            mix.accept(answer(s).length());
            mix.accept(members(s).length());
            for (int object = 0; object < 12; object++) {
                for (int what = 0; what <= 7; what++) {
                    mix.accept(ofObject(s, object, what));
                }
                mix.accept(text(s, object).length());
                mix.accept(grants(s, object).length());
            }
            for (int table = 0; table < 4; table++) {
                for (int policy = 0; policy < 4; policy++) {
                    mix.accept(policyText(s, table, policy).length());
                }
            }
            for (int actor = 0; actor < 8; actor++) {
                mix.accept(circle(s, actor));
                for (int object = 0; object < 12; object++) {
                    mix.accept(isKnown(s, actor, object) ? 1 : 0);
                }
                for (int object = 0; object < 8; object++) {
                    mix.accept(sees(s, actor, object));
                }
                for (int table = 0; table < 4; table++) {
                    mix.accept(rows(s, actor, table, false).length());
                    mix.accept(rows(s, actor, table, true).length());
                }
            }
            for (int sheet = 0; sheet < 4; sheet++) {
                mix.accept(typed(sheet).length());
                for (int form = 0; form < 4; form++) {
                    mix.accept(fault(s, sheet, form, false));
                    mix.accept(fault(s, sheet, form, true));
                }
                mix.accept(would(s, sheet).length());
            }
        }
        mix.accept(isSound() ? 1 : 0);
        return d[0];
    }
}
