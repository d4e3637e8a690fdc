import java.util.ArrayList;
import java.util.List;
import java.util.Random;
import java.util.regex.Matcher;
import java.util.regex.Pattern;

/**
 * A second reader of texts, written from the document by other means than the class (all words, NUMBERS and signs are
 * found first, then looked at in a row), answers for made-up texts, of which many have one byte or two changed.
 */
public final class BodyCornersSecondText {
    private static final int OBJECTS = 600;
    private static final int TEXTS = 4;
    private static final int TEXT_MAX = 160;
    private static final int BODY_MAX = 24;
    private static final int CLAIM_MAX = 8;
    private static final int NONE = BodyCorners.NONE;
    private static final Pattern TOKEN = Pattern.compile("[a-z]+|[0-9]+|[^a-z0-9]", Pattern.DOTALL);
    private static final String BYTES = "abcdefghijklmnopqrstuvwxyz0123456789 ;<>=\u0000\u0007\tA~\u0080\u00ff`{/:";
    private static final int[] ROUND_MAX = {16, 10, 6};

    private static long passed = 0;
    private static long failed = 0;

    private static void due(String what, long got, long want) {
        if (got == want) {
            passed++;
            return;
        }
        failed++;
        if (failed < 40) {
            System.out.println(what + " answered " + got + ", due is " + want);
        }
    }

    // ---- the second reader

    /** A word, a NUMBER, a sign, or (empty) the end. */
    private record Token(String text, int at) {
        boolean isNumber() {
            return !text.isEmpty() && text.charAt(0) >= '0' && text.charAt(0) <= '9';
        }
    }

    private static final class Fault extends Exception {
        private static final long serialVersionUID = 1;
        final int kind;
        final int at;

        Fault(int kind, int at) {
            this.kind = kind;
            this.at = at;
        }
    }

    /** A clause: its word, then its NUMBERS (of a CLAIM: B or NONE, K, V) and the sign of a CLAIM. */
    private record Clause(String word, int[] numbers, char sign) {
        boolean isClaim() {
            return word.equals("claim");
        }
    }

    private static final class Reader {
        private final List<Token> tokens = new ArrayList<>();
        private int next;

        Reader(String text) {
            Matcher found = TOKEN.matcher(text);
            while (found.find()) {
                if (!found.group().equals(" ")) {
                    tokens.add(new Token(found.group(), found.start()));
                }
            }
            tokens.add(new Token("", text.length()));
        }

        List<Clause> clauses(int claimsThere) throws Fault {
            List<Clause> out = new ArrayList<>();
            int claims = claimsThere;
            while (!tokens.get(next).text().isEmpty()) {
                Token word = take();
                claims += word.text().equals("claim") ? 1 : 0;
                if (word.text().equals("claim") && claims > CLAIM_MAX) {
                    throw new Fault(3, word.at());
                }
                out.add(clause(word));
                takeText(";");
            }
            return out;
        }

        private Clause clause(Token word) throws Fault {
            switch (word.text()) {
                case "cube":
                case "cross":
                case "corner":
                    return new Clause(word.text(), new int[] {takeNumber(2, 4)}, ' ');
                case "round":
                    int n = takeNumber(2, 4);
                    takeText("of");
                    return new Clause("round", new int[] {n, takeNumber(n + 1, ROUND_MAX[n - 2])}, ' ');
                case "claim":
                    int about = takeAbout();
                    takeText("faces");
                    int k = takeNumber(0, 3);
                    char sign = takeSign();
                    return new Clause("claim", new int[] {about, k, takeNumber(0, 999)}, sign);
                default:
                    throw new Fault(1, word.at());
            }
        }

        private Token take() {
            next++;
            return tokens.get(next - 1);
        }

        private void takeText(String text) throws Fault {
            Token token = take();
            if (!token.text().equals(text)) {
                throw new Fault(1, token.at());
            }
        }

        private int takeNumber(int least, int most) throws Fault {
            Token token = take();
            if (!token.isNumber()) {
                throw new Fault(1, token.at());
            }
            if (token.text().length() > 3) {
                throw new Fault(2, token.at());
            }
            int value = Integer.parseInt(token.text());
            if (value < least || value > most) {
                throw new Fault(2, token.at());
            }
            return value;
        }

        private int takeAbout() throws Fault {
            if (tokens.get(next).text().equals("all")) {
                next++;
                return NONE;
            }
            return takeNumber(0, 99);
        }

        private char takeSign() throws Fault {
            Token token = take();
            if (token.text().length() != 1 || "<>=".indexOf(token.text().charAt(0)) < 0) {
                throw new Fault(1, token.at());
            }
            return token.text().charAt(0);
        }
    }

    /** What is known of such bodies: f0 .. f3. */
    private static int[] cellsOf(Clause clause) {
        int n = clause.numbers()[0];
        switch (clause.word()) {
            case "cube":
                return new int[][] {{4, 4, 0, 0}, {8, 12, 6, 0}, {16, 32, 24, 8}}[n - 2];
            case "cross":
                return new int[][] {{4, 4, 0, 0}, {6, 12, 8, 0}, {8, 24, 32, 16}}[n - 2];
            case "corner":
                return new int[][] {{3, 3, 0, 0}, {4, 6, 4, 0}, {5, 10, 10, 5}}[n - 2];
            default:
                int m = clause.numbers()[1];
                int[] ofFour = {m, m * (m - 1) / 2, m * (m - 3), m * (m - 3) / 2};
                return new int[][] {{m, m, 0, 0}, {m, 3 * m - 6, 2 * m - 4, 0}, ofFour}[n - 2];
        }
    }

    private static boolean isTrueOf(Clause claim, Clause body) {
        int cells = cellsOf(body)[claim.numbers()[1]];
        int value = claim.numbers()[2];
        switch (claim.sign()) {
            case '<':
                return cells < value;
            case '>':
                return cells > value;
            default:
                return cells == value;
        }
    }

    private static int dueOfClaim(Clause claim, List<Clause> bodies) {
        int about = claim.numbers()[0];
        if (about >= bodies.size()) {
            return NONE;
        }
        for (int i = 0; i < bodies.size(); i++) {
            if ((about == NONE || about == i) && !isTrueOf(claim, bodies.get(i))) {
                return 100 + i;
            }
        }
        return 0;
    }

    // ---- made-up texts

    private static String blanks(Random random, int least) {
        return " ".repeat(least + (random.nextInt(4) == 0 ? random.nextInt(3) : 0));
    }

    /** Now and then beyond its bounds, or with a figure 0 ahead. */
    private static String number(Random random, int least, int most) {
        int beyond = random.nextInt(24) == 0 ? 1 : 0;
        int value = Math.max(0, least - beyond + random.nextInt(most - least + 1 + 2 * beyond));
        return blanks(random, 0) + (random.nextInt(12) == 0 ? "0" : "") + value + blanks(random, 0);
    }

    private static String clause(Random random) {
        String[] words = {"cube", "cross", "corner", "round", "round", "claim", "claim"};
        String word = words[random.nextInt(words.length)];
        if (word.equals("claim")) {
            String about = random.nextBoolean() ? blanks(random, 1) + "all" + blanks(random, 1)
                    : number(random, 0, random.nextInt(4) == 0 ? 99 : 9);
            int most = random.nextInt(4) == 0 ? 999 : 20;
            return word + about + "faces" + number(random, 0, 3) + "<>=".charAt(random.nextInt(3))
                    + number(random, 0, most) + ";";
        }
        int n = 2 + random.nextInt(3);
        if (word.equals("round")) {
            return word + blanks(random, 0) + n + blanks(random, 0) + "of" + number(random, n + 1, ROUND_MAX[n - 2])
                    + ";";
        }
        return word + number(random, 2, 4) + ";";
    }

    private static String someText(Random random) {
        StringBuilder out = new StringBuilder();
        int clauses = random.nextInt(9);
        for (int k = 0; k < clauses; k++) {
            out.append(blanks(random, 0)).append(clause(random)).append(blanks(random, 0));
        }
        for (int change = 0; change < 2 && out.length() > 0; change++) {
            if (random.nextInt(3) == 0) {
                changeByte(out, random);
            }
        }
        return out.toString();
    }

    private static void changeByte(StringBuilder out, Random random) {
        int at = random.nextInt(out.length());
        String from = random.nextBoolean() ? out.toString() : BYTES;
        char other = from.charAt(random.nextInt(from.length()));
        switch (random.nextInt(4)) {
            case 0:
                out.insert(at, other);
                break;
            case 1:
                out.deleteCharAt(at);
                break;
            case 2:
                out.setCharAt(at, other);
                break;
            default:
                out.setLength(at);
        }
    }

    /** Feeds it by so many bytes as come, with other bits above them; what THE TEXT has taken of it. */
    private static String feedSome(BodyCorners x, String text, Random random) {
        int at = 0;
        while (at < text.length()) {
            int n = Math.min(1 + random.nextInt(8), text.length() - at);
            if (text.length() > 40 && n < 6) {
                n = Math.min(8, text.length() - at);
            }
            long bytes = random.nextLong();
            for (int k = 0; k < n; k++) {
                bytes = bytes << 8 | text.charAt(at + k);
            }
            if (at + n > TEXT_MAX) {
                due("feed", x.feed(n, bytes), BodyCorners.FULL);
                break;
            }
            at += n;
            due("feed", x.feed(n, bytes), at);
        }
        due("bytes", x.count(5), at);
        return text.substring(0, at);
    }

    private static void readOne(BodyCorners x, String text, List<Clause> bodies, List<Clause> claims) {
        try {
            List<Clause> clauses = new Reader(text).clauses(claims.size());
            int done = 0;
            for (Clause clause : clauses) {
                if (!clause.isClaim() && bodies.size() >= BODY_MAX) {
                    break;
                }
                (clause.isClaim() ? claims : bodies).add(clause);
                done++;
            }
            due("read of " + text, x.read(), done);
            due("fault of " + text, x.fault(), NONE);
        } catch (Fault fault) {
            due("read of " + text, x.read(), -10 - fault.kind);
            due("fault of " + text, x.fault(), fault.at);
        }
    }

    private static void askAll(BodyCorners x, List<Clause> bodies, List<Clause> claims) {
        due("bytes", x.count(5), 0);
        due("BODIES", x.count(0), bodies.size());
        due("CLAIMS", x.count(2), claims.size());
        for (int i = Math.max(0, bodies.size() - 6); i < bodies.size(); i++) {
            due("D", x.about(i, 0), bodies.get(i).numbers()[0]);
            for (int k = 0; k < 4; k++) {
                due("faces", x.faces(i, k), cellsOf(bodies.get(i))[k]);
            }
        }
        for (int k = 0; k < claims.size(); k++) {
            due("claim", x.claim(k), dueOfClaim(claims.get(k), bodies));
        }
        due("claim", x.claim(claims.size()), BodyCorners.UNKNOWN);
    }

    public static void main(String[] args) {
        int objects = args.length > 0 ? Integer.parseInt(args[0]) : OBJECTS;
        int seed = args.length > 1 ? Integer.parseInt(args[1]) : 1;
        for (int o = 0; o < objects; o++) {
            Random random = new Random(1000003L * seed + o);
            BodyCorners x = new BodyCorners();
            List<Clause> bodies = new ArrayList<>();
            List<Clause> claims = new ArrayList<>();
            // Some objects are nearly FULL, so that clauses are left undone.
            for (int time = 0; time < 2 && o % 5 == 0; time++) {
                readOne(x, feedSome(x, "cube2;".repeat(11), random), bodies, claims);
            }
            for (int time = 0; time < TEXTS; time++) {
                readOne(x, feedSome(x, someText(random), random), bodies, claims);
                askAll(x, bodies, claims);
            }
        }
        System.out.println(passed + " passed, " + failed + " failed");
        System.exit(failed == 0 ? 0 : 1);
    }
}
