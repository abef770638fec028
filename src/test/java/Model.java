import java.math.BigInteger;
import java.util.ArrayList;
import java.util.HashMap;
import java.util.HashSet;
import java.util.LinkedHashSet;
import java.util.List;
import java.util.Map;
import java.util.Set;

/**
 * The document once more, written slowly and in other ways than the class: texts are recognised by
 * items of the grammar (Earley's way) and reckoned by splitting them, CHANCES come from elimination
 * with fractions, and all rests are tried one by one. Random runs are held against it.
 */
final class Model {
    private static final long BILLION = 1_000_000_000L;

    final int[] worths = new int[3];
    final int[] purses = {7, 7, 7};
    private final StringBuilder tape = new StringBuilder();
    private final List<List<Statement>> contests = new ArrayList<>();
    private int faultPlace = -1;
    private final int[] ways = new int[2];
    private final int[][] lots = new int[2][8];
    private final List<List<int[]>> sorts = List.of(new ArrayList<>(), new ArrayList<>());
    private final Map<Integer, List<Rest>> known = new HashMap<>();

    // ---- texts

    record Token(String kind, String text, int place) { }

    record Statement(String outcome, List<Token> value, List<Token> condition) { }

    private record Item(String head, int depth, List<String> body, int dot, int origin) { }

    static List<Token> tokens(String text) {
        List<Token> found = new ArrayList<>();
        int i = 0;
        while (i < text.length()) {
            char c = text.charAt(i);
            int end = i + 1;
            if (c == ' ' || c == '\n') {
                i++;
                continue;
            }
            if (c >= 'a' && c <= 'z') {
                while (end < text.length() && text.charAt(end) >= 'a' && text.charAt(end) <= 'z') {
                    end++;
                }
            } else if (c >= '0' && c <= '9') {
                while (end < text.length() && text.charAt(end) >= '0' && text.charAt(end) <= '9') {
                    end++;
                }
            }
            String word = text.substring(i, end);
            String kind = word;
            if (word.matches("[0-9]{1,5}")) {
                kind = "NUMBER";
            } else if (word.matches("worth|mine|other|purse|who|day")) {
                kind = "WORD";
            }
            found.add(new Token(kind, word, i));
            i = end;
        }
        return found;
    }

    /** Bodies of a part of the grammar, with how many are open around it behind a colon. */
    private static List<List<String>> bodies(String head, int d) {
        String deeper = d < 9 ? ":" + (d + 1) : null;
        String here = ":" + d;
        List<List<String>> all = new ArrayList<>();
        switch (head) {
            case "TEXT":
                all.add(List.of());
                // Here the number behind the colon is that of the statements which stand.
                if (d < 20) {
                    all.add(List.of("STATEMENT:0", "TEXT:" + (d + 1)));
                }
                break;
            case "STATEMENT":
                for (String outcome : List.of("win", "lose", "tie")) {
                    all.add(List.of(outcome, "EX:0", ";"));
                    all.add(List.of(outcome, "EX:0", "if", "ANY:0", ";"));
                }
                break;
            case "EX":
                all.add(List.of("PROD" + here));
                all.add(List.of("EX" + here, "+", "PROD" + here));
                all.add(List.of("EX" + here, "-", "PROD" + here));
                break;
            case "PROD":
                all.add(List.of("ATOM" + here));
                all.add(List.of("PROD" + here, "*", "ATOM" + here));
                all.add(List.of("PROD" + here, "/", "ATOM" + here));
                break;
            case "ATOM":
                all.add(List.of("NUMBER"));
                all.add(List.of("WORD"));
                if (deeper != null) {
                    all.add(List.of("(", "EX" + deeper, ")"));
                }
                break;
            case "ANY":
                all.add(List.of("ALL" + here));
                all.add(List.of("ANY" + here, "or", "ALL" + here));
                break;
            case "ALL":
                all.add(List.of("ONE" + here));
                all.add(List.of("ALL" + here, "and", "ONE" + here));
                break;
            default:
                for (String sign : List.of("<", ">", "=")) {
                    all.add(List.of("EX" + here, sign, "EX" + here));
                }
                if (deeper != null) {
                    all.add(List.of("not", "ONE" + deeper));
                    all.add(List.of("[", "ANY" + deeper, "]"));
                }
        }
        return all;
    }

    static int faultOf(String text) {
        List<Token> tokens = tokens(text);
        List<LinkedHashSet<Item>> sets = new ArrayList<>();
        sets.add(new LinkedHashSet<>());
        sets.get(0).add(new Item("TEXT", 0, List.of("STATEMENT:0", "TEXT:1"), 0, 0));
        boolean accepts = true;
        for (int i = 0; ; i++) {
            Set<Item> next = new LinkedHashSet<>();
            Token token = i < tokens.size() ? tokens.get(i) : null;
            accepts = i == 0 | close(sets, i, token, next);
            if (token == null) {
                return accepts ? -1 : text.length();
            }
            if (next.isEmpty()) {
                return token.place;
            }
            sets.add(new LinkedHashSet<>(next));
        }
    }

    /** Completes and predicts in set i; scans into the next one: whether a whole text ends here. */
    private static boolean close(List<LinkedHashSet<Item>> sets, int i, Token token, Set<Item> next) {
        List<Item> queue = new ArrayList<>(sets.get(i));
        Set<Item> here = sets.get(i);
        boolean accepts = false;
        for (int at = 0; at < queue.size(); at++) {
            Item item = queue.get(at);
            List<Item> more = new ArrayList<>();
            if (item.dot == item.body.size()) {
                accepts |= item.head.equals("TEXT") && item.origin == 0;
                String done = item.head + ":" + item.depth;
                for (Item waiting : new ArrayList<>(sets.get(item.origin))) {
                    if (waiting.dot < waiting.body.size() && waiting.body.get(waiting.dot).equals(done)) {
                        more.add(new Item(waiting.head, waiting.depth, waiting.body, waiting.dot + 1, waiting.origin));
                    }
                }
            } else {
                String wanted = item.body.get(item.dot);
                int colon = wanted.indexOf(':');
                if (colon > 0) {
                    int depth = Integer.parseInt(wanted.substring(colon + 1));
                    for (List<String> body : bodies(wanted.substring(0, colon), depth)) {
                        if (body.isEmpty()) {
                            more.add(new Item(item.head, item.depth, item.body, item.dot + 1, item.origin));
                        } else {
                            more.add(new Item(wanted.substring(0, colon), depth, body, 0, i));
                        }
                    }
                } else if (token != null && token.kind.equals(wanted)) {
                    next.add(new Item(item.head, item.depth, item.body, item.dot + 1, item.origin));
                }
            }
            for (Item item2 : more) {
                if (here.add(item2)) {
                    queue.add(item2);
                }
            }
        }
        return accepts;
    }

    private static List<Statement> statementsOf(String text) {
        List<Statement> found = new ArrayList<>();
        List<Token> tokens = tokens(text);
        int from = 0;
        for (int i = 0; i < tokens.size(); i++) {
            if (tokens.get(i).kind.equals(";")) {
                int split = i;
                for (int j = from; j < i; j++) {
                    split = tokens.get(j).kind.equals("if") ? j : split;
                }
                List<Token> condition = split < i ? tokens.subList(split + 1, i) : List.of();
                found.add(new Statement(tokens.get(from).kind, tokens.subList(from + 1, split), condition));
                from = i + 1;
            }
        }
        return found;
    }

    // ---- GETS

    private static int lastOf(List<Token> tokens, Set<String> kinds) {
        int depth = 0;
        for (int i = tokens.size() - 1; i >= 0; i--) {
            String kind = tokens.get(i).kind;
            depth += kind.equals(")") || kind.equals("]") ? 1 : kind.equals("(") || kind.equals("[") ? -1 : 0;
            if (depth == 0 && kinds.contains(kind)) {
                return i;
            }
        }
        return -1;
    }

    private static long reckon(List<Token> tokens, Map<String, Integer> asked) {
        int split = lastOf(tokens, Set.of("+", "-"));
        split = split < 0 ? lastOf(tokens, Set.of("*", "/")) : split;
        if (split < 0) {
            Token token = tokens.get(0);
            if (token.kind.equals("(")) {
                return reckon(tokens.subList(1, tokens.size() - 1), asked);
            }
            return token.kind.equals("WORD") ? asked.get(token.text) : Long.parseLong(token.text);
        }
        BigInteger left = BigInteger.valueOf(reckon(tokens.subList(0, split), asked));
        BigInteger right = BigInteger.valueOf(reckon(tokens.subList(split + 1, tokens.size()), asked));
        BigInteger result;
        switch (tokens.get(split).kind) {
            case "+": result = left.add(right); break;
            case "-": result = left.subtract(right); break;
            case "*": result = left.multiply(right); break;
            default: result = right.signum() == 0 ? BigInteger.ZERO : left.divide(right);
        }
        return result.max(BigInteger.valueOf(-BILLION)).min(BigInteger.valueOf(BILLION)).longValue();
    }

    private static boolean holds(List<Token> tokens, Map<String, Integer> asked) {
        int split = lastOf(tokens, Set.of("or"));
        if (split >= 0) {
            return holds(tokens.subList(0, split), asked) || holds(tokens.subList(split + 1, tokens.size()), asked);
        }
        split = lastOf(tokens, Set.of("and"));
        if (split >= 0) {
            return holds(tokens.subList(0, split), asked) && holds(tokens.subList(split + 1, tokens.size()), asked);
        }
        if (tokens.get(0).kind.equals("not")) {
            return !holds(tokens.subList(1, tokens.size()), asked);
        }
        if (tokens.get(0).kind.equals("[")) {
            return holds(tokens.subList(1, tokens.size() - 1), asked);
        }
        split = lastOf(tokens, Set.of("<", ">", "="));
        int compared = Long.compare(reckon(tokens.subList(0, split), asked),
            reckon(tokens.subList(split + 1, tokens.size()), asked));
        return compared == Map.of("<", -1, ">", 1, "=", 0).get(tokens.get(split).kind);
    }

    private int told(int contest, String outcome, int who, int worth, int mine, int other, int day) {
        Map<String, Integer> asked = Map.of("worth", worth, "mine", mine, "other", other,
            "purse", purses[who], "who", who, "day", day);
        for (Statement statement : contests.get(contest)) {
            if (statement.outcome.equals(outcome)
                    && (statement.condition.isEmpty() || holds(statement.condition, asked))) {
                return (int) Math.max(-9999, Math.min(9999, reckon(statement.value, asked)));
            }
        }
        return 0;
    }

    private int got(int contest, int who, int worth, int mine, int other) {
        return told(contest, mine > other ? "win" : mine < other ? "lose" : "tie", who, worth, mine, other, 0);
    }

    private int got(int contest, int who, int mine, int other) {
        return got(contest, who, worths[who], mine, other);
    }

    // ---- RESTS

    record Fraction(BigInteger upper, BigInteger lower) {
        static Fraction of(BigInteger upper, BigInteger lower) {
            BigInteger common = upper.gcd(lower);
            common = lower.signum() < 0 ? common.negate() : common;
            return new Fraction(upper.divide(common), lower.divide(common));
        }

        static Fraction of(long value) {
            return of(BigInteger.valueOf(value), BigInteger.ONE);
        }

        Fraction plus(Fraction x) {
            return of(upper.multiply(x.lower).add(x.upper.multiply(lower)), lower.multiply(x.lower));
        }

        Fraction times(Fraction x) {
            return of(upper.multiply(x.upper), lower.multiply(x.lower));
        }

        Fraction by(Fraction x) {
            return of(upper.multiply(x.lower), lower.multiply(x.upper));
        }

        Fraction minus(Fraction x) {
            return plus(new Fraction(x.upper.negate(), x.lower));
        }

        int sign() {
            return upper.signum();
        }

        long millionthsCut() {
            return upper.multiply(BigInteger.valueOf(1_000_000)).divide(lower).longValueExact();
        }
    }

    record Rest(int size, int[] bits, Fraction[][] chances, Fraction[] means) { }

    private static List<Integer> members(int bits) {
        List<Integer> found = new ArrayList<>();
        for (int sum = 0; sum < 8; sum++) {
            if ((bits >> sum & 1) != 0) {
                found.add(sum);
            }
        }
        return found;
    }

    /** CHANCES of the other one over their set, and behind them the mean; null: not just one row. */
    private static Fraction[] onlyRow(int[][] gets, int mine, int other) {
        List<Integer> rows = members(mine);
        List<Integer> columns = members(other);
        int n = rows.size();
        Fraction[][] m = new Fraction[n + 1][n + 2];
        for (int i = 0; i <= n; i++) {
            for (int j = 0; j < n; j++) {
                m[i][j] = Fraction.of(i < n ? gets[rows.get(i)][columns.get(j)] : 1);
            }
            m[i][n] = Fraction.of(i < n ? -1 : 0);
            m[i][n + 1] = Fraction.of(i < n ? 0 : 1);
        }
        for (int column = 0; column <= n; column++) {
            int pivot = column;
            while (pivot <= n && m[pivot][column].sign() == 0) {
                pivot++;
            }
            if (pivot > n) {
                return null;
            }
            Fraction[] swapped = m[pivot];
            m[pivot] = m[column];
            m[column] = swapped;
            for (int i = 0; i <= n; i++) {
                if (i != column && m[i][column].sign() != 0) {
                    Fraction factor = m[i][column].by(m[column][column]);
                    for (int j = column; j <= n + 1; j++) {
                        m[i][j] = m[i][j].minus(factor.times(m[column][j]));
                    }
                }
            }
        }
        Fraction[] row = new Fraction[n + 1];
        for (int i = 0; i <= n; i++) {
            row[i] = m[i][n + 1].by(m[i][i]);
        }
        return row;
    }

    private static boolean isBest(int[][] gets, Fraction[] row, int other, int purse) {
        List<Integer> columns = members(other);
        for (int i = 0; i < columns.size(); i++) {
            if (row[i].sign() <= 0) {
                return false;
            }
        }
        for (int sum = 0; sum <= purse; sum++) {
            Fraction value = Fraction.of(0);
            for (int i = 0; i < columns.size(); i++) {
                value = value.plus(row[i].times(Fraction.of(gets[sum][columns.get(i)])));
            }
            if (value.minus(row[columns.size()]).sign() > 0) {
                return false;
            }
        }
        return true;
    }

    private List<Rest> restsWith(int contest, int worth0, int worth1) {
        int[][] a = new int[8][8];
        int[][] b = new int[8][8];
        for (int i = 0; i < 8; i++) {
            for (int j = 0; j < 8; j++) {
                a[i][j] = got(contest, 0, worth0, i, j);
                b[i][j] = got(contest, 1, worth1, i, j);
            }
        }
        List<Rest> found = new ArrayList<>();
        for (int size = 1; size <= 3; size++) {
            for (int mine = 1; mine < 2 << purses[0]; mine++) {
                for (int other = 1; other < 2 << purses[1]; other++) {
                    if (Integer.bitCount(mine) == size && Integer.bitCount(other) == size) {
                        Fraction[] ones = onlyRow(a, mine, other);
                        if (ones == null || !isBest(a, ones, other, purses[0])) {
                            continue;
                        }
                        Fraction[] zeros = onlyRow(b, other, mine);
                        if (zeros == null || !isBest(b, zeros, mine, purses[1])) {
                            continue;
                        }
                        found.add(new Rest(size, new int[] {mine, other},
                            new Fraction[][] {spread(zeros, mine), spread(ones, other)},
                            new Fraction[] {ones[size], zeros[size]}));
                    }
                }
            }
        }
        return found;
    }

    private static Fraction[] spread(Fraction[] row, int bits) {
        Fraction[] all = new Fraction[8];
        List<Integer> sums = members(bits);
        for (int sum = 0; sum < 8; sum++) {
            all[sum] = sums.contains(sum) ? row[sums.indexOf(sum)] : Fraction.of(0);
        }
        return all;
    }

    private List<Rest> allRests(int contest) {
        return known.computeIfAbsent(contest, c -> restsWith(c, worths[0], worths[1]));
    }

    private Rest restAt(int contest, int r) {
        if (!isContest(contest) || r < 0 || r >= allRests(contest).size()) {
            return null;
        }
        return allRests(contest).get(r);
    }

    private boolean isContest(int contest) {
        return contest >= 0 && contest < contests.size();
    }

    private static boolean isTwo(int who) {
        return who == 0 || who == 1;
    }

    private static boolean within(int value, int from, int to) {
        return value >= from && value <= to;
    }

    // ---- the face

    boolean player(int who, int worth, int purse) {
        if (!within(who, 0, 2) || !within(worth, 0, 999) || !within(purse, 0, 7)) {
            return false;
        }
        worths[who] = worth;
        purses[who] = purse;
        known.clear();
        return true;
    }

    int feed(int a, int b, int c, int d, int e) {
        if (tape.length() > 480) {
            return -1;
        }
        for (int number : new int[] {a, b, c, d, e}) {
            for (int i = 3; i >= 0; i--) {
                tape.append((char) (number >> 8 * i & 255));
            }
        }
        return tape.length();
    }

    int contest(int n) {
        if (n < 0 || n > tape.length()) {
            return -2;
        }
        if (contests.size() == 8) {
            return -3;
        }
        String text = tape.substring(0, n);
        tape.setLength(0);
        faultPlace = faultOf(text);
        if (faultPlace >= 0) {
            return -1;
        }
        contests.add(statementsOf(text));
        return contests.size() - 1;
    }

    int fault() {
        return faultPlace;
    }

    int gets(int contest, int who, int mine, int other) {
        if (!isContest(contest) || !within(who, 0, 2) || !within(mine, 0, 999) || !within(other, 0, 999)) {
            return -10_000;
        }
        return got(contest, who, mine, other);
    }

    int rests(int contest) {
        return isContest(contest) ? allRests(contest).size() : -1;
    }

    private static BigInteger commonLower(Fraction[] row) {
        BigInteger all = BigInteger.ONE;
        for (Fraction x : row) {
            all = all.multiply(x.lower).divide(all.gcd(x.lower));
        }
        return all;
    }

    long rest(int contest, int r, int what) {
        Rest rest = restAt(contest, r);
        if (rest == null) {
            return -1;
        }
        if (what == 0) {
            return rest.size;
        }
        if (what == 1 || what == 2) {
            return rest.bits[what - 1];
        }
        if (what == 3 || what == 4) {
            return commonLower(rest.chances[what - 3]).longValueExact();
        }
        if (within(what, 10, 17) || within(what, 20, 27)) {
            Fraction[] row = rest.chances[what / 10 - 1];
            Fraction x = row[what % 10];
            return x.upper.multiply(commonLower(row)).divide(x.lower).longValueExact();
        }
        return -1;
    }

    long mean(int contest, int r, int who, boolean lower) {
        Rest rest = restAt(contest, r);
        if (rest == null || !isTwo(who)) {
            return 0;
        }
        return (lower ? rest.means[who].lower : rest.means[who].upper).longValueExact();
    }

    long lost(int contest, int r) {
        Rest rest = restAt(contest, r);
        if (rest == null) {
            return -1;
        }
        long all = 0;
        for (Fraction[] row : rest.chances) {
            Fraction mean = Fraction.of(0);
            for (int sum = 0; sum < 8; sum++) {
                mean = mean.plus(row[sum].times(Fraction.of(sum)));
            }
            all += mean.millionthsCut();
        }
        return all;
    }

    int wrong(int contest, int r) {
        Rest rest = restAt(contest, r);
        if (rest == null) {
            return -1;
        }
        BigInteger wins = BigInteger.ZERO;
        BigInteger ties = BigInteger.ZERO;
        for (int i = 0; i < 8; i++) {
            for (int j = 0; j < 8; j++) {
                BigInteger product = BigInteger.valueOf(rest.chances[0][i].millionthsCut())
                    .multiply(BigInteger.valueOf(rest.chances[1][j].millionthsCut()));
                if (i == j) {
                    ties = ties.add(product);
                } else if (i > j == worths[0] < worths[1]) {
                    wins = wins.add(product);
                }
            }
        }
        if (worths[0] == worths[1]) {
            return 0;
        }
        return wins.add(ties.shiftRight(1)).divide(BigInteger.valueOf(1_000_000)).intValueExact();
    }

    int least(int what) {
        int best = -1;
        for (int contest = 0; contest < contests.size() && within(what, 0, 1); contest++) {
            if (rests(contest) > 0) {
                if (best < 0 || (what == 0 ? lost(contest, 0) < lost(best, 0) : wrong(contest, 0) < wrong(best, 0))) {
                    best = contest;
                }
            }
        }
        return best;
    }

    private static int ceiling(Fraction x) {
        BigInteger[] both = x.upper.divideAndRemainder(x.lower);
        return both[0].intValueExact() + (both[1].signum() > 0 ? 1 : 0);
    }

    int offer(int contest, int r, int who) {
        Rest rest = restAt(contest, r);
        return rest == null || !isTwo(who) ? -10_000 : ceiling(rest.means[who]);
    }

    int edge(int contest, int who) {
        if (!isContest(contest) || !isTwo(who)) {
            return -1;
        }
        List<Rest> now = allRests(contest);
        for (int worth = worths[who] + 1; worth <= Math.min(999, worths[who] + 40); worth++) {
            List<Rest> then = restsWith(contest, who == 0 ? worth : worths[0], who == 1 ? worth : worths[1]);
            if (then.size() != now.size()) {
                return worth;
            }
            if (!now.isEmpty() && !java.util.Arrays.equals(now.get(0).bits, then.get(0).bits)) {
                return worth;
            }
        }
        return -1;
    }

    boolean sure(int who, int sum) {
        if (!isTwo(who) || !within(sum, 0, 7)) {
            return false;
        }
        ways[who] = 1;
        lots[who] = new int[8];
        lots[who][sum] = 1000;
        return true;
    }

    boolean lot(int who, int sum, int parts) {
        if (!isTwo(who) || !within(sum, 0, 7) || !within(parts, 0, 1000)) {
            return false;
        }
        lots[who] = ways[who] == 2 ? lots[who] : new int[8];
        ways[who] = 2;
        lots[who][sum] = parts;
        return true;
    }

    boolean answer(int who) {
        if (!isTwo(who)) {
            return false;
        }
        ways[who] = 3;
        return true;
    }

    int way(int who) {
        return isTwo(who) ? ways[who] : -1;
    }

    private int bestAgainst(int contest, int who, int[] other) {
        int best = 0;
        for (int sum = 1; sum <= purses[who]; sum++) {
            best = against(contest, who, sum, other) > against(contest, who, best, other) ? sum : best;
        }
        return best;
    }

    private long against(int contest, int who, int sum, int[] other) {
        long all = 0;
        for (int j = 0; j < 8; j++) {
            all += other[j] == 0 ? 0 : (long) other[j] * got(contest, who, sum, j);
        }
        return all;
    }

    /** Parts of both; null: not WHOLE. */
    private int[][] puts(int contest) {
        if (!isContest(contest) || ways[0] == 0 || ways[1] == 0 || ways[0] == 3 && ways[1] == 3) {
            return null;
        }
        int[][] puts = new int[2][];
        for (int who = 0; who < 2; who++) {
            if (ways[who] != 3) {
                int all = 0;
                for (int sum = 0; sum < 8; sum++) {
                    all += lots[who][sum];
                    if (lots[who][sum] > 0 && sum > purses[who]) {
                        return null;
                    }
                }
                if (all != 1000) {
                    return null;
                }
                puts[who] = lots[who];
            }
        }
        for (int who = 0; who < 2; who++) {
            if (ways[who] == 3) {
                puts[who] = new int[8];
                puts[who][bestAgainst(contest, who, lots[1 - who])] = 1000;
            }
        }
        return puts;
    }

    int part(int contest, int who, int sum) {
        int[][] puts = puts(contest);
        return puts == null || !isTwo(who) || !within(sum, 0, 7) ? -1 : puts[who][sum];
    }

    long worth(int contest, int who) {
        int[][] puts = puts(contest);
        if (puts == null || !isTwo(who)) {
            return -1_000_000_000_000L;
        }
        long all = 0;
        for (int i = 0; i < 8; i++) {
            for (int j = 0; j < 8; j++) {
                all += (long) puts[who][i] * puts[1 - who][j] * got(contest, who, i, j);
            }
        }
        return all;
    }

    int best(int contest, int who) {
        int[][] puts = puts(contest);
        return puts == null || !isTwo(who) ? -1 : bestAgainst(contest, who, puts[1 - who]);
    }

    int judge(int contest) {
        int[][] puts = puts(contest);
        if (puts == null) {
            return -2;
        }
        for (int who = 0; who < 2; who++) {
            int best = best(contest, who);
            if (1000 * against(contest, who, best, puts[1 - who]) > worth(contest, who)) {
                return 10 * who + best;
            }
        }
        return -1;
    }

    int sort(int who, int worth, int parts) {
        if (!isTwo(who) || !within(worth, 0, 999) || !within(parts, 0, 1000) || sorts.get(who).size() == 3) {
            return -1;
        }
        sorts.get(who).add(new int[] {worth, parts});
        return sorts.get(who).size() - 1;
    }

    private static int digit(int code, int k) {
        return k == 0 ? code % 4 : digit(code / 4, k - 1);
    }

    private boolean isCode(int who, int code) {
        for (int k = 0; k < 3; k++) {
            if (digit(code, k) > (k < sorts.get(who).size() ? purses[who] : 0)) {
                return false;
            }
        }
        return true;
    }

    private long sortGets(int contest, int who, int sort, int sum, int otherCode) {
        long all = 0;
        List<int[]> others = sorts.get(1 - who);
        for (int k = 0; k < others.size(); k++) {
            all += (long) others.get(k)[1] * got(contest, who, sorts.get(who).get(sort)[0], sum, digit(otherCode, k));
        }
        return all;
    }

    private boolean isSortedSide(int contest, int who, int code, int otherCode) {
        for (int k = 0; k < sorts.get(who).size(); k++) {
            long now = sortGets(contest, who, k, digit(code, k), otherCode);
            for (int sum = 0; sum <= Math.min(3, purses[who]); sum++) {
                if (sortGets(contest, who, k, sum, otherCode) > now) {
                    return false;
                }
            }
        }
        return true;
    }

    int sorted(int contest, int k, int what) {
        if (!isContest(contest) || k < 0 || !within(what, 0, 3)) {
            return -1;
        }
        for (List<int[]> side : sorts) {
            if (side.stream().mapToInt(x -> x[1]).sum() != 1000) {
                return -1;
            }
        }
        int seen = 0;
        for (int a = 0; a < 64; a++) {
            for (int b = 0; b < 64 && isCode(0, a); b++) {
                if (isCode(1, b) && isSortedSide(contest, 0, a, b) && isSortedSide(contest, 1, b, a) && seen++ == k) {
                    return what == 0 ? a : what == 1 ? b : rises(what - 2, what == 2 ? a : b);
                }
            }
        }
        return -1;
    }

    private int rises(int who, int code) {
        List<int[]> side = sorts.get(who);
        for (int i = 0; i < side.size(); i++) {
            for (int j = 0; j < side.size(); j++) {
                if (side.get(i)[0] > side.get(j)[0] && digit(code, i) < digit(code, j)) {
                    return 0;
                }
            }
        }
        return 1;
    }

    private List<Integer> trios(int contest) {
        List<Integer> found = new ArrayList<>();
        for (int code = 0; code < 64; code++) {
            int[] sums = {code / 16, code / 4 % 4, code % 4};
            boolean rests = true;
            for (int who = 0; who < 3; who++) {
                int other = Math.max(sums[(who + 1) % 3], sums[(who + 2) % 3]);
                rests &= sums[who] <= purses[who];
                for (int sum = 0; sum <= Math.min(3, purses[who]); sum++) {
                    rests &= got(contest, who, sum, other) <= got(contest, who, sums[who], other);
                }
            }
            if (rests) {
                found.add(code);
            }
        }
        return found;
    }

    int three(int contest, int k) {
        if (!isContest(contest)) {
            return -1;
        }
        List<Integer> rows = trios(contest);
        return within(k, 0, rows.size() - 1) ? rows.get(k) : -1;
    }

    int idle(int contest) {
        if (!isContest(contest)) {
            return -1;
        }
        List<Integer> rows = trios(contest);
        int bits = 0;
        bits += !rows.isEmpty() && rows.stream().allMatch(x -> x / 16 == 0) ? 1 : 0;
        bits += !rows.isEmpty() && rows.stream().allMatch(x -> x / 4 % 4 == 0) ? 2 : 0;
        bits += !rows.isEmpty() && rows.stream().allMatch(x -> x % 4 == 0) ? 4 : 0;
        return bits;
    }

    private long[] allDays(int contest, int q0, int q1, int n) {
        long[] told = new long[7];
        told[0] = BILLION;
        for (int d = 1; d <= n; d++) {
            long both = told[0] * q0 * q1 / 1_000_000;
            long zero = told[0] * q0 * (1000 - q1) / 1_000_000;
            long one = told[0] * (1000 - q0) * q1 / 1_000_000;
            told[1] += both * told(contest, "tie", 0, worths[0], d, d, d)
                + zero * told(contest, "lose", 0, worths[0], d, d, d)
                + one * told(contest, "win", 0, worths[0], d, d, d);
            told[2] += both * told(contest, "tie", 1, worths[1], d, d, d)
                + one * told(contest, "lose", 1, worths[1], d, d, d)
                + zero * told(contest, "win", 1, worths[1], d, d, d);
            told[3] += one;
            told[4] += zero;
            told[5] += both;
            told[6] += d * (both + zero + one);
            told[0] = told[0] - both - zero - one;
        }
        return told;
    }

    long days(int contest, int q0, int q1, int n, int what) {
        if (!isContest(contest) || !within(q0, 0, 1000) || !within(q1, 0, 1000) || !within(n, 1, 400)
                || !within(what, 0, 6)) {
            return -1;
        }
        return allDays(contest, q0, q1, n)[what];
    }

    int leave(int contest, int q1, int n) {
        if (!isContest(contest) || !within(q1, 0, 1000) || !within(n, 1, 400)) {
            return -1;
        }
        int best = 0;
        long most = Long.MIN_VALUE;
        for (int q0 = 0; q0 <= 1000; q0 += 50) {
            long here = allDays(contest, q0, q1, n)[1];
            if (here > most) {
                most = here;
                best = q0;
            }
        }
        return best;
    }

    int learn(int contest, int n, int who, int sum) {
        if (!isContest(contest) || !within(n, 1, 500) || !isTwo(who) || !within(sum, 0, 7)) {
            return -1;
        }
        int[][] put = new int[2][8];
        for (int round = 1; round <= n; round++) {
            int[] once = {1, 0, 0, 0, 0, 0, 0, 0};
            int zero = bestAgainst(contest, 0, round == 1 ? once : put[1]);
            int one = bestAgainst(contest, 1, round == 1 ? once : put[0]);
            put[0][zero]++;
            put[1][one]++;
        }
        return put[who][sum];
    }

    int cycle(int contest, int a, int b, int what) {
        if (!isContest(contest) || !within(a, 0, purses[0]) || !within(b, 0, purses[1]) || !within(what, 0, 1)) {
            return -1;
        }
        List<List<Integer>> couples = new ArrayList<>();
        couples.add(List.of(a, b));
        while (true) {
            int[] other = new int[8];
            other[couples.get(couples.size() - 1).get(1)] = 1;
            int zero = bestAgainst(contest, 0, other);
            other = new int[8];
            other[zero] = 1;
            List<Integer> couple = List.of(zero, bestAgainst(contest, 1, other));
            if (couples.contains(couple)) {
                return what == 0 ? couples.size() : couples.indexOf(couple);
            }
            couples.add(couple);
        }
    }

    int run(int contest, int seed, int n, int what) {
        int[][] puts = puts(contest);
        if (puts == null || !within(seed, 0, 999_999_999) || !within(n, 1, 1000) || !within(what, 0, 4)) {
            return -1_000_000_000;
        }
        BigInteger all = BigInteger.ONE.shiftLeft(64);
        BigInteger z = BigInteger.valueOf(seed);
        int[] told = new int[5];
        for (int round = 0; round < n; round++) {
            int[] sums = new int[2];
            for (int who = 0; who < 2; who++) {
                z = z.multiply(new BigInteger("6364136223846793005"));
                z = z.add(new BigInteger("1442695040888963407")).mod(all);
                int v = z.shiftRight(33).mod(BigInteger.valueOf(1000)).intValueExact();
                int together = puts[who][0];
                while (together <= v) {
                    together += puts[who][++sums[who]];
                }
            }
            told[0] += got(contest, 0, sums[0], sums[1]);
            told[1] += got(contest, 1, sums[1], sums[0]);
            told[2] += sums[0] > sums[1] ? 1 : 0;
            told[3] += sums[0] == sums[1] ? 1 : 0;
            told[4] += sums[0] + sums[1];
        }
        return told[what];
    }

    int deal(int contest, int r, int who) {
        Rest rest = restAt(contest, r);
        if (rest == null || !isTwo(who)) {
            return -1;
        }
        int alone = got(contest, who, Math.min(1, purses[who]), 0);
        for (int pay = 0; pay <= 9_999; pay++) {
            if (Fraction.of(pay).minus(rest.means[1 - who]).sign() >= 0
                    && Fraction.of(alone - pay).minus(rest.means[who]).sign() >= 0) {
                return pay;
            }
        }
        return -1;
    }

    int forget() {
        int all = sorts.get(0).size() + sorts.get(1).size();
        sorts.get(0).clear();
        sorts.get(1).clear();
        return all;
    }

    int count(int what) {
        switch (what) {
            case 0: return contests.size();
            case 1: return contests.isEmpty() ? 0 : contests.get(contests.size() - 1).size();
            case 2: return tape.length();
            case 3: return sorts.get(0).size();
            case 4: return sorts.get(1).size();
            case 5: return ways[0] == 3 && ways[1] == 3 ? 1 : 0;
            default: return within(what, 6, 8) ? worths[what - 6] : within(what, 9, 11) ? purses[what - 9] : -1;
        }
    }
}
