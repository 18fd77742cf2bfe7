import java.util.ArrayList;
import java.util.List;

/**
 * The language of the document, tried in every way that its rules leave: slow, but each rule is
 * written as it stands there. The place of a fault is the furthest token that was refused.
 */
final class PlainSyntax {
    static final String[] WORDS = (
            "select distinct from where group and or not is null in exists count sum min max insert "
            + "update delete set me asker member p outer * + - ( ) , = <> < <= a b c0 c1 c2 c3 T0 T1 T2 T3 "
            + "V0 V1 V2 V3 F0 F1 F2 F3 A0 A1 A2 A3 A4 A5 A6 A7 [ ]").split(" ");

    static int numberOf(String word) {
        for (int i = 0; i < WORDS.length; i++) {
            if (WORDS[i].equals(word)) {
                return i;
            }
        }
        return 100 + Integer.parseInt(word);
    }

    static String wordOf(int token) {
        return token >= 100 ? Integer.toString(token - 100) : WORDS[token];
    }

    static String textOf(List<Integer> tokens) {
        List<String> words = new ArrayList<>();
        for (int token : tokens) {
            words.add(wordOf(token));
        }
        return String.join(" ", words);
    }

    static final class Node {
        final String kind;
        final int place;
        final List<Node> kids = new ArrayList<>();
        String word = "";
        int number;
        boolean flag;
        boolean star;
        int starPlace;
        List<Node> what = new ArrayList<>();
        List<Node> sources = new ArrayList<>();
        Node where;
        Node group;

        Node(String kind, int place, Node... kids) {
            this.kind = kind;
            this.place = place;
            this.kids.addAll(List.of(kids));
        }
    }

    private record End(int at, Node node) { }

    private interface Rule {
        List<End> from(int at);
    }

    private final List<String> words = new ArrayList<>();
    private int furthest = -1;
    Node tree;
    int fault = -1;

    PlainSyntax(List<Integer> tokens, int form) {
        for (int token : tokens) {
            words.add(token >= 100 ? "N" + (token - 100) : WORDS[token]);
        }
        List<End> ends = switch (form) {
            case 0 -> statement(0);
            case 1 -> query(0, 0);
            case 2 -> expr(0, 0);
            default -> cond(0, 0);
        };
        for (End end : ends) {
            if (end.at == words.size()) {
                tree = end.node;
            } else {
                furthest = Math.max(furthest, end.at);
            }
        }
        if (tree == null) {
            fault = furthest;
        }
    }

    private boolean is(int at, String... wanted) {
        if (at < words.size()) {
            for (String word : wanted) {
                String given = words.get(at);
                if (word.equals(given)) {
                    return true;
                }
                boolean isClass = word.equals("T#") || word.equals("V#") || word.equals("F#") || word.equals("A#")
                        || word.equals("c#") || word.equals("N#");
                if (isClass && given.length() >= 2 && given.charAt(0) == word.charAt(0)
                        && Character.isDigit(given.charAt(1))) {
                    return true;
                }
            }
        }
        furthest = Math.max(furthest, at);
        return false;
    }

    /** One of the four signs that may stand in one another four deep. */
    private boolean isNest(int at, String wanted, int depth) {
        if (depth >= 4) {
            furthest = Math.max(furthest, at);
            return false;
        }
        return is(at, wanted);
    }

    private int digit(int at) {
        return Integer.parseInt(words.get(at).substring(1));
    }

    private static List<End> one(int at, Node node) {
        return List.of(new End(at, node));
    }

    // ---- statements

    private List<End> statement(int at) {
        List<End> ends = new ArrayList<>(query(at, 0));
        if (is(at, "insert") && is(at + 1, "T#")) {
            Node node = new Node("insert", at);
            node.number = digit(at + 1);
            ends.addAll(sets(at + 2, node));
        }
        if (is(at, "update") && is(at + 1, "T#") && is(at + 2, "set")) {
            Node node = new Node("update", at);
            node.number = digit(at + 1);
            for (End end : sets(at + 3, node)) {
                ends.addAll(withWhere(end, 0));
            }
        }
        if (is(at, "delete") && is(at + 1, "T#")) {
            Node node = new Node("delete", at);
            node.number = digit(at + 1);
            ends.addAll(withWhere(new End(at + 2, node), 0));
        }
        return ends;
    }

    /** The kids of the statement become its C = expr. */
    private List<End> sets(int at, Node statement) {
        List<End> all = new ArrayList<>();
        List<End> now = oneSet(at, statement);
        for (int i = 1; i <= 4; i++) {
            all.addAll(now);
            List<End> next = new ArrayList<>();
            for (End end : now) {
                if (i == 4) {
                    furthest = Math.max(furthest, end.at);
                } else if (is(end.at, ",")) {
                    next.addAll(oneSet(end.at + 1, end.node));
                }
            }
            now = next;
        }
        return all;
    }

    private List<End> oneSet(int at, Node statement) {
        List<End> ends = new ArrayList<>();
        if (is(at, "c#") && is(at + 1, "=")) {
            for (End end : expr(at + 2, 0)) {
                Node set = new Node("set", at, end.node);
                set.number = digit(at);
                ends.add(new End(end.at, with(statement, set)));
            }
        }
        return ends;
    }

    private static Node with(Node node, Node kid) {
        Node copy = copy(node);
        copy.kids.add(kid);
        return copy;
    }

    private static Node copy(Node node) {
        Node copy = new Node(node.kind, node.place);
        copy.kids.addAll(node.kids);
        copy.word = node.word;
        copy.number = node.number;
        copy.flag = node.flag;
        copy.star = node.star;
        copy.starPlace = node.starPlace;
        copy.what.addAll(node.what);
        copy.sources.addAll(node.sources);
        copy.where = node.where;
        copy.group = node.group;
        return copy;
    }

    private List<End> withWhere(End before, int depth) {
        List<End> ends = new ArrayList<>();
        ends.add(before);
        if (is(before.at, "where")) {
            for (End end : cond(before.at + 1, depth)) {
                Node node = copy(before.node);
                node.where = end.node;
                ends.add(new End(end.at, node));
            }
        }
        return ends;
    }

    // ---- queries

    private List<End> query(int at, int depth) {
        if (!is(at, "select")) {
            return List.of();
        }
        Node node = new Node("query", at);
        node.flag = is(at + 1, "distinct");
        List<End> ends = new ArrayList<>();
        for (End what : what(node.flag ? at + 2 : at + 1, depth, node)) {
            if (!is(what.at, "from") || !is(what.at + 1, "T#", "V#")) {
                continue;
            }
            Node first = copy(what.node);
            first.sources.add(source(what.at + 1));
            ends.addAll(rest(what.at + 2, depth, first));
            if (is(what.at + 2, ",") && is(what.at + 3, "T#", "V#")) {
                Node second = copy(first);
                second.sources.add(source(what.at + 3));
                ends.addAll(rest(what.at + 4, depth, second));
            }
        }
        return ends;
    }

    private Node source(int at) {
        Node source = new Node("source", at);
        source.number = digit(at) + (words.get(at).charAt(0) == 'V' ? 4 : 0);
        return source;
    }

    private List<End> rest(int at, int depth, Node query) {
        List<End> ends = new ArrayList<>();
        for (End end : withWhere(new End(at, query), depth)) {
            ends.add(end);
            if (is(end.at, "group")) {
                for (End ref : ref(end.at + 1)) {
                    Node node = copy(end.node);
                    node.group = ref.node;
                    ends.add(new End(ref.at, node));
                }
            }
        }
        return ends;
    }

    private List<End> what(int at, int depth, Node query) {
        List<End> all = new ArrayList<>();
        if (is(at, "*")) {
            Node node = copy(query);
            node.star = true;
            node.starPlace = at;
            all.add(new End(at + 1, node));
        }
        List<End> now = oneWhat(at, depth, query);
        for (int i = 1; i <= 4; i++) {
            all.addAll(now);
            List<End> next = new ArrayList<>();
            for (End end : now) {
                if (i == 4) {
                    furthest = Math.max(furthest, end.at);
                } else if (is(end.at, ",")) {
                    next.addAll(oneWhat(end.at + 1, depth, end.node));
                }
            }
            now = next;
        }
        return all;
    }

    private List<End> oneWhat(int at, int depth, Node query) {
        List<End> ends = new ArrayList<>();
        for (End end : expr(at, depth)) {
            Node node = copy(query);
            node.what.add(end.node);
            ends.add(new End(end.at, node));
        }
        return ends;
    }

    // ---- values

    private List<End> chain(int at, Rule operand, String... signs) {
        List<End> all = new ArrayList<>();
        List<End> now = operand.from(at);
        while (!now.isEmpty()) {
            all.addAll(now);
            List<End> next = new ArrayList<>();
            for (End end : now) {
                if (is(end.at, signs)) {
                    for (End more : operand.from(end.at + 1)) {
                        Node node = new Node("chain", end.at, end.node, more.node);
                        node.word = words.get(end.at);
                        next.add(new End(more.at, node));
                    }
                }
            }
            now = next;
        }
        return all;
    }

    private List<End> expr(int at, int depth) {
        return chain(at, here -> term(here, depth), "+", "-");
    }

    private List<End> term(int at, int depth) {
        return chain(at, here -> factor(here, depth), "*");
    }

    private List<End> factor(int at, int depth) {
        List<End> ends = new ArrayList<>();
        if (is(at, "N#", "A#")) {
            Node node = new Node("number", at);
            node.number = digit(at);
            ends.add(new End(at + 1, node));
        }
        if (is(at, "null", "me", "asker", "p")) {
            ends.addAll(one(at + 1, new Node(words.get(at), at)));
        }
        ends.addAll(ref(at));
        if (isNest(at, "-", depth)) {
            for (End end : factor(at + 1, depth + 1)) {
                ends.add(new End(end.at, new Node("minus", at, end.node)));
            }
        }
        if (isNest(at, "(", depth)) {
            ends.addAll(closed(expr(at + 1, depth + 1), ")"));
            for (End end : closed(query(at + 1, depth + 1), ")")) {
                ends.add(new End(end.at, new Node("subquery", end.node.place, end.node)));
            }
        }
        if (is(at, "F#") && isNest(at + 1, "(", depth)) {
            for (End end : closed(expr(at + 2, depth + 1), ")")) {
                Node node = new Node("call", at, end.node);
                node.number = digit(at);
                ends.add(new End(end.at, node));
            }
        }
        ends.addAll(aggregate(at, depth));
        return ends;
    }

    private List<End> aggregate(int at, int depth) {
        List<End> ends = new ArrayList<>();
        if (is(at, "count") && isNest(at + 1, "(", depth) && is(at + 2, "*") && is(at + 3, ")")) {
            Node node = new Node("aggregate", at);
            node.word = "rows";
            ends.add(new End(at + 4, node));
        }
        if (is(at, "count", "sum", "min", "max") && isNest(at + 1, "(", depth)) {
            for (End end : closed(expr(at + 2, depth + 1), ")")) {
                Node node = new Node("aggregate", at, end.node);
                node.word = words.get(at);
                ends.add(new End(end.at, node));
            }
        }
        return ends;
    }

    private List<End> closed(List<End> inside, String sign) {
        List<End> ends = new ArrayList<>();
        for (End end : inside) {
            if (is(end.at, sign)) {
                ends.add(new End(end.at + 1, end.node));
            }
        }
        return ends;
    }

    private List<End> ref(int at) {
        Node node = new Node("ref", at);
        int here = at;
        if (is(here, "outer")) {
            node.flag = true;
            here++;
        }
        node.word = "a";
        if (is(here, "a", "b")) {
            node.word = words.get(here);
            here++;
        }
        if (!is(here, "c#")) {
            return List.of();
        }
        node.number = digit(here);
        return one(here + 1, node);
    }

    // ---- conditions

    private List<End> cond(int at, int depth) {
        return chain(at, here -> conj(here, depth), "or");
    }

    private List<End> conj(int at, int depth) {
        return chain(at, here -> neg(here, depth), "and");
    }

    private List<End> neg(int at, int depth) {
        List<End> ends = new ArrayList<>();
        if (isNest(at, "not", depth)) {
            for (End end : neg(at + 1, depth + 1)) {
                ends.add(new End(end.at, new Node("not", at, end.node)));
            }
        }
        ends.addAll(prim(at, depth));
        return ends;
    }

    private List<End> prim(int at, int depth) {
        List<End> ends = new ArrayList<>();
        if (isNest(at, "[", depth)) {
            ends.addAll(closed(cond(at + 1, depth + 1), "]"));
        }
        if (is(at, "exists") && isNest(at + 1, "(", depth)) {
            for (End end : closed(query(at + 2, depth + 1), ")")) {
                ends.add(new End(end.at, new Node("exists", at, end.node)));
            }
        }
        if (is(at, "member") && is(at + 1, "A#")) {
            Node node = new Node("member", at);
            node.number = digit(at + 1);
            ends.add(new End(at + 2, node));
        }
        for (End left : expr(at, depth)) {
            if (is(left.at, "=", "<>", "<", "<=")) {
                for (End right : expr(left.at + 1, depth)) {
                    Node node = new Node("compare", left.at, left.node, right.node);
                    node.word = words.get(left.at);
                    ends.add(new End(right.at, node));
                }
            }
            if (is(left.at, "is")) {
                int here = left.at + 1;
                boolean isNot = is(here, "not");
                here += isNot ? 1 : 0;
                if (is(here, "null")) {
                    Node node = new Node("isnull", left.at, left.node);
                    node.flag = isNot;
                    ends.add(new End(here + 1, node));
                }
            }
            int here = left.at;
            boolean isNot = is(here, "not");
            here += isNot ? 1 : 0;
            if (is(here, "in") && isNest(here + 1, "(", depth)) {
                ends.addAll(list(here + 2, depth + 1, new Node("in", left.at, left.node), isNot));
            }
        }
        return ends;
    }

    /** The first kid of the node is compared, the others are compared with. */
    private List<End> list(int at, int depth, Node node, boolean isNot) {
        node.flag = isNot;
        List<End> all = new ArrayList<>();
        List<End> now = new ArrayList<>();
        for (End end : expr(at, depth)) {
            now.add(new End(end.at, with(node, end.node)));
        }
        while (!now.isEmpty()) {
            all.addAll(now);
            List<End> next = new ArrayList<>();
            for (End end : now) {
                if (is(end.at, ",")) {
                    for (End more : expr(end.at + 1, depth)) {
                        next.add(new End(more.at, with(end.node, more.node)));
                    }
                }
            }
            now = next;
        }
        return closed(all, ")");
    }
}
