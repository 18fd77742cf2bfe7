import java.util.ArrayList;
import java.util.List;
import java.util.Random;

/** Texts by chance, spoiled in many places: each has the fault, and its place, that the plain syntax finds. */
public final class SyntaxTest {
    // Tokens of which nests and lists are made.
    private static final int[] SIGNS = {0, 2, 3, 4, 5, 6, 7, 7, 8, 9, 10, 11, 12, 13, 22, 24, 25, 26, 27, 27, 28, 28, 28,
        29, 29, 30, 31, 35, 36, 37, 38, 41, 45, 49, 53, 61, 61, 62, 62, 100};

    private static void spoil(List<Integer> tokens, Random random) {
        int many = random.nextInt(4);
        for (int i = 0; i < many && !tokens.isEmpty(); i++) {
            int at = random.nextInt(tokens.size());
            int token = SIGNS[random.nextInt(SIGNS.length)];
            int kind = random.nextInt(4);
            if (kind == 0) {
                tokens.set(at, token);
            } else if (kind == 1) {
                tokens.remove(at);
            } else if (tokens.size() < 60) {
                tokens.add(at, token);
            }
        }
    }

    private static void type(Grantbase base, List<Integer> tokens) {
        base.wipe(0, 60);
        for (int token : tokens) {
            base.say(0, -1, token, -1, -1, -1);
        }
    }

    /** Chains of what nests, so that the fifth one is met. */
    private static List<Integer> nest(Random random) {
        String[] opens = {"(", "(", "-", "not", "[", "not", "F0 (", "count (", "exists (", "( select", "1 in (", "c0 = ("};
        StringBuilder text = new StringBuilder(random.nextBoolean() ? "select" : "");
        int many = 3 + random.nextInt(6);
        for (int i = 0; i < many; i++) {
            text.append(' ').append(opens[random.nextInt(opens.length)]);
        }
        text.append(" c0");
        List<Integer> tokens = new ArrayList<>();
        for (String word : text.toString().trim().split(" ")) {
            tokens.add(PlainSyntax.numberOf(word));
        }
        return tokens;
    }

    public static void main(String[] args) {
        int runs = args.length > 0 ? Integer.parseInt(args[0]) : 6000;
        Random random = new Random(args.length > 1 ? Integer.parseInt(args[1]) : 1);
        Phrases phrases = new Phrases(random);
        Grantbase base = new Grantbase();
        int[] faults = new int[61];
        for (int i = 0; i < runs; i++) {
            List<Integer> tokens = i % 5 == 0 ? nest(random) : phrases.of(random.nextInt(4));
            spoil(tokens, random);
            while (tokens.size() > 60) {
                tokens.remove(60);
            }
            type(base, tokens);
            for (int form = 0; form < 4; form++) {
                int due = new PlainSyntax(tokens, form).fault;
                boolean isSyntax = base.fault(0, 0, form, false) == 1;
                int got = isSyntax ? base.fault(0, 0, form, true) : -1;
                Desk.is("form " + form + " of " + base.typed(0), got, due);
                if (due >= 0) {
                    faults[due]++;
                }
            }
        }
        Desk.is("faults behind ten tokens", java.util.Arrays.stream(faults, 10, 61).sum() > runs / 10, true);
        Desk.end("SyntaxTest");
    }
}
