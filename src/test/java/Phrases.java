import java.util.ArrayList;
import java.util.List;
import java.util.Random;

/** Makes texts of the language by chance, most of them such that they can stand. */
final class Phrases {
    private final Random random;
    private List<String> words;
    // What can be named most of the time.
    private List<String> tables = List.of();
    private List<String> views = List.of();
    private List<String> functions = List.of();
    private int columns = 4;
    private boolean isInside;

    Phrases(Random random) {
        this.random = random;
    }

    /** Tells what somebody knows of a database: names of that are taken most of the time. */
    void know(PlainModel.Db db, int actor) {
        tables = new ArrayList<>();
        views = new ArrayList<>();
        functions = new ArrayList<>();
        columns = 4;
        for (int object = 0; object < 12; object++) {
            if (db.knows(actor, object)) {
                (object < 4 ? tables : object < 8 ? views : functions).add("TVF".charAt(object / 4) + "" + object % 4);
                if (object < 4) {
                    columns = Math.min(columns, db.things.get(object).columns);
                }
            }
        }
    }

    private String name(List<String> known, String kind) {
        return known.isEmpty() || chance(6) ? kind + random.nextInt(4) : known.get(random.nextInt(known.size()));
    }

    private boolean chance(int percent) {
        return random.nextInt(100) < percent;
    }

    private String pick(String... of) {
        return of[random.nextInt(of.length)];
    }

    private void add(String... more) {
        words.addAll(List.of(more));
    }

    /** Tokens of a text that is meant for a form. */
    List<Integer> of(int form) {
        for (int i = 0; i < 50; i++) {
            words = new ArrayList<>();
            isInside = false;
            switch (form) {
                case 0 -> statement();
                case 1 -> query(0, false);
                case 2 -> expr(0, false, true, false);
                default -> cond(0, false, false);
            }
            if (words.size() <= 60) {
                break;
            }
        }
        List<Integer> tokens = new ArrayList<>();
        for (String word : words.subList(0, Math.min(60, words.size()))) {
            tokens.add(PlainSyntax.numberOf(word));
        }
        if (chance(8)) {
            spoil(tokens);
        }
        return tokens;
    }

    private void spoil(List<Integer> tokens) {
        if (tokens.isEmpty()) {
            return;
        }
        int at = random.nextInt(tokens.size());
        int token = chance(20) ? 100 + random.nextInt(100) : random.nextInt(63);
        switch (random.nextInt(4)) {
            case 0 -> tokens.set(at, token);
            case 1 -> tokens.remove(at);
            case 2 -> tokens.subList(at, tokens.size()).clear();
            default -> {
                if (tokens.size() < 60) {
                    tokens.add(at, token);
                }
            }
        }
    }

    private String table() {
        return name(tables, "T");
    }

    private String column() {
        return "c" + (chance(6) ? random.nextInt(4) : random.nextInt(columns));
    }

    private void statement() {
        int kind = random.nextInt(10);
        if (kind < 5) {
            query(0, false);
        } else if (kind < 7) {
            add("insert", table());
            sets();
        } else if (kind < 9) {
            add("update", table(), "set");
            sets();
            if (chance(70)) {
                add("where");
                cond(0, false, true);
            }
        } else {
            add("delete", table());
            if (chance(85)) {
                add("where");
                cond(0, false, true);
            }
        }
    }

    private void sets() {
        int many = 1 + random.nextInt(3);
        for (int i = 0; i < many; i++) {
            if (i > 0) {
                add(",");
            }
            add(chance(80) ? "c" + i : column(), "=");
            expr(0, false, false, true);
        }
    }

    private void query(int depth, boolean isInner) {
        boolean wasInside = isInside;
        isInside = isInner;
        oneQuery(depth, isInner);
        isInside = wasInside;
    }

    private void oneQuery(int depth, boolean isInner) {
        add("select");
        boolean isGrouped = chance(25);
        boolean isAggregate = chance(isGrouped ? 70 : 15);
        String group = column();
        if (chance(20)) {
            add("distinct");
        }
        if (chance(isInner ? 15 : 25) && !isGrouped && !isAggregate) {
            add("*");
        } else {
            int many = isInner ? 1 : 1 + random.nextInt(4);
            for (int i = 0; i < many; i++) {
                if (i > 0) {
                    add(",");
                }
                if (isGrouped && chance(50)) {
                    add(group);
                } else if (isAggregate || isGrouped && chance(90)) {
                    aggregate(depth, isInner);
                } else {
                    expr(depth, true, false, !isInner);
                }
            }
        }
        add("from");
        source(isInner);
        if (chance(isInner ? 4 : 30)) {
            add(",");
            source(isInner);
        }
        if (chance(50)) {
            add("where");
            cond(depth, true, !isInner);
        }
        if (isGrouped) {
            add("group");
            if (chance(5)) {
                add("outer");
            }
            add(group);
        }
    }

    private void source(boolean isInner) {
        add(chance(isInner ? 4 : 40) && !views.isEmpty() ? name(views, "V") : table());
    }

    private void aggregate(int depth, boolean isInner) {
        if (depth > 3 || chance(25)) {
            add("count", "(", "*", ")");
            return;
        }
        add(pick("count", "sum", "min", "max"), "(");
        expr(depth + 1, true, false, !isInner && chance(20));
        add(")");
    }

    private void ref() {
        if (chance(isInside ? 40 : 2)) {
            add("outer");
        }
        if (chance(15)) {
            add(pick("a", "a", "a", "b"));
        }
        add(column());
    }

    private void expr(int depth, boolean isQuery, boolean isFunction, boolean mayAsk) {
        term(depth, isQuery, isFunction, mayAsk);
        for (int i = 0; i < 3 && chance(18); i++) {
            add(pick("+", "-"));
            term(depth, isQuery, isFunction, mayAsk);
        }
    }

    private void term(int depth, boolean isQuery, boolean isFunction, boolean mayAsk) {
        factor(depth, isQuery, isFunction, mayAsk);
        for (int i = 0; i < 2 && chance(10); i++) {
            add("*");
            factor(depth, isQuery, isFunction, mayAsk);
        }
    }

    private void factor(int depth, boolean isQuery, boolean isFunction, boolean mayAsk) {
        int kind = random.nextInt(100);
        boolean mayNest = depth < 4 || chance(5);
        if (kind < 20) {
            add(Integer.toString(chance(90) ? random.nextInt(5) : random.nextInt(100)));
        } else if (kind < 24) {
            add("null");
        } else if (kind < 32) {
            add(pick("me", "me", "asker"));
        } else if (kind < 36) {
            add(pick("A0", "A1", "A2", "A5"));
        } else if (kind < 40 && mayNest) {
            add("-");
            factor(depth + 1, isQuery, isFunction, mayAsk);
        } else if (kind < 45 && mayNest) {
            add("(");
            expr(depth + 1, isQuery, isFunction, mayAsk);
            add(")");
        } else if (kind < 53 && mayNest && (!functions.isEmpty() || chance(10))) {
            add(name(functions, "F"), "(");
            expr(depth + 1, isQuery, isFunction, mayAsk);
            add(")");
        } else if (kind < 60 && mayNest && mayAsk) {
            add("(");
            query(depth + 1, true);
            add(")");
        } else if (isFunction) {
            add(chance(95) ? "p" : "c0");
        } else if (kind < 61) {
            add("p");
        } else if (kind < 62) {
            aggregate(depth, !mayAsk);
        } else {
            ref();
        }
    }

    private void cond(int depth, boolean isQuery, boolean mayAsk) {
        prim(depth, isQuery, mayAsk);
        for (int i = 0; i < 3 && chance(22); i++) {
            add(pick("and", "or"));
            prim(depth, isQuery, mayAsk);
        }
    }

    private void prim(int depth, boolean isQuery, boolean mayAsk) {
        int kind = random.nextInt(100);
        boolean mayNest = depth < 4 || chance(5);
        if (kind < 10 && mayNest) {
            add("not");
            prim(depth + 1, isQuery, mayAsk);
            return;
        }
        if (kind < 16 && mayNest) {
            add("[");
            cond(depth + 1, isQuery, mayAsk);
            add("]");
            return;
        }
        if (kind < 25 && mayNest && mayAsk) {
            add("exists", "(");
            query(depth + 1, true);
            add(")");
            return;
        }
        if (kind < 32) {
            add("member", pick("A0", "A1", "A2", "A5", "A7"));
            return;
        }
        expr(depth, isQuery, false, mayAsk);
        if (kind < 80) {
            add(pick("=", "=", "<>", "<", "<="));
            expr(depth, isQuery, false, mayAsk);
        } else if (kind < 88) {
            add("is");
            if (chance(50)) {
                add("not");
            }
            add("null");
        } else {
            if (chance(40)) {
                add("not");
            }
            add("in", "(");
            int many = 1 + random.nextInt(3);
            for (int i = 0; i < many; i++) {
                if (i > 0) {
                    add(",");
                }
                expr(Math.min(depth + 1, 4), isQuery, false, mayAsk);
            }
            add(")");
        }
    }
}
