import java.util.Arrays;

/**
 * Who gives in first: contests in which all pay. What each call answers stands, as a numbered
 * promise, in ../shared/DOC.md; words in capitals are that document's terms.
 *
 * <p>All rows are made by the constructors and used again, so that no later call makes anything.
 */
public final class HoldOuts {
    public static final int NONE = -1;

    private static final int BAD_LENGTH = -2;
    private static final int TOO_MANY = -3;
    private static final int NOT_WHOLE = -2;
    private static final int NO_GETS = -10_000;
    private static final int NO_RUN = -1_000_000_000;
    private static final long NO_WORTH = -1_000_000_000_000L;

    private static final int MOST_WORTH = 999;
    private static final int MOST_PURSE = 7;
    private static final int MOST_ASKED_SUM = 999;
    private static final int MOST_GETS = 9_999;
    private static final int MOST_RESULT = 1_000_000_000;
    private static final int MOST_BYTES = 500;
    private static final int FED_BYTES = 20;
    private static final int MOST_CONTESTS = 8;
    private static final int MOST_STATEMENTS = 20;
    private static final int MOST_OPEN = 9;
    private static final int MOST_DIGITS = 5;
    private static final int MOST_SORTS = 3;
    private static final int MOST_SEED = 999_999_999;
    private static final int MOST_RUN_ROUNDS = 1_000;
    private static final int MOST_LEARN_ROUNDS = 500;
    private static final int MOST_DAYS = 400;
    private static final int EDGE_STEPS = 40;
    private static final int ALL_PARTS = 1_000;
    private static final int MILLION = 1_000_000;
    private static final long FIRST_MASS = 1_000_000_000L;
    private static final int LEAVE_STEP = 50;
    private static final int LEAVE_CHOICES = 21;

    private static final int SUMS = 8;
    private static final int COUPLES = SUMS * SUMS;
    // THREE and SORTED know the SUMS 0 to 3 alone.
    private static final int FEW_SUMS = 4;
    private static final int FEW_CODES = 64;

    // Kinds of tokens: the words in the order of WORDS, then the signs in the order of SIGNS.
    private static final String WORDS =
        "win  lose tie  if   or   and  not  worthmine otherpursewho  day  ";
    private static final int WORD_WIDTH = 5;
    private static final int WORD_COUNT = 13;
    private static final String SIGNS = "+-*/()[]<>=;";
    private static final int WIN = 0;
    private static final int LOSE = 1;
    private static final int TIE = 2;
    private static final int IF = 3;
    private static final int OR = 4;
    private static final int AND = 5;
    private static final int NOT = 6;
    private static final int ASK_WORTH = 7;
    private static final int ASK_DAY = 12;
    private static final int PLUS = 13;
    private static final int MINUS = 14;
    private static final int TIMES = 15;
    private static final int OVER = 16;
    private static final int OPEN_ROUND = 17;
    private static final int CLOSE_ROUND = 18;
    private static final int OPEN_SQUARE = 19;
    private static final int CLOSE_SQUARE = 20;
    private static final int LESS = 21;
    private static final int MORE = 22;
    private static final int SAME = 23;
    private static final int END_STATEMENT = 24;
    private static final int NUMBER = 25;
    private static final int END = 26;
    private static final int BAD = 27;

    // Sets of one, two and three SUMS: where those of each size begin in the row of all sets, and
    // where their couples begin in the row of all couples of sets.
    private static final int MOST_SET = 3;
    private static final int SET_COUNT = 92;
    private static final int PAIR_COUNT = 3_984;
    private static final int[] SET_STARTS = {0, 8, 36, 92};
    private static final int[] PAIR_STARTS = {0, 64, 848, 3_984};

    private static final int WAY_NONE = 0;
    private static final int WAY_SURE = 1;
    private static final int WAY_LOTS = 2;
    private static final int WAY_ANSWER = 3;

    private final Player first = new Player(0);
    private final Player second = new Player(1);
    private final Player third = new Player(2);
    private final int[] tape = new int[MOST_BYTES];
    private int taped = 0;
    private final Reader reader = new Reader();
    private int faultPlace = NONE;
    private final Contest[] contests = new Contest[MOST_CONTESTS];
    private int contestCount = 0;
    private final Finder finder = new Finder();
    private final Rest solved = new Rest();
    private final Table edgeTable = new Table();
    private final Player edgePlayer = new Player(0);
    private final Ways ways = new Ways();
    private final Rounds rounds = new Rounds();
    private final Sorts sorts = new Sorts();
    private final Trio trio = new Trio();
    private final Days daily = new Days();

    public HoldOuts() {
        for (int i = 0; i < contests.length; i++) {
            contests[i] = new Contest();
        }
    }

    public boolean player(int who, int worth, int purse) {
        if (who < 0 || who > 2 || !isWorth(worth) || purse < 0 || purse > MOST_PURSE) {
            return false;
        }
        numbered(who).worth = worth;
        numbered(who).purse = purse;
        for (int i = 0; i < contestCount && i < contests.length; i++) {
            if (contests[i] != null) {
                contests[i].table.forgetAll();
            }
        }
        return true;
    }

    public int feed(int a, int b, int c, int d, int e) {
        if (taped + FED_BYTES > MOST_BYTES) {
            return NONE;
        }
        putOnTape(a);
        putOnTape(b);
        putOnTape(c);
        putOnTape(d);
        putOnTape(e);
        return taped;
    }

    public int contest(int n) {
        if (n < 0 || n > taped) {
            return BAD_LENGTH;
        }
        if (contestCount >= MOST_CONTESTS) {
            return TOO_MANY;
        }
        taped = 0;
        faultPlace = reader.read(tape, n);
        int number = contestCount;
        if (faultPlace != NONE || number < 0 || number >= contests.length || contests[number] == null) {
            return NONE;
        }
        contests[number].copy(reader.draft);
        contests[number].table.forgetAll();
        contestCount++;
        return number;
    }

    public int fault() {
        return faultPlace;
    }

    public int gets(int contest, int who, int mine, int other) {
        Contest asked = toldContest(contest);
        if (asked == null || who < 0 || who > 2) {
            return NO_GETS;
        }
        if (mine < 0 || mine > MOST_ASKED_SUM || other < 0 || other > MOST_ASKED_SUM) {
            return NO_GETS;
        }
        return asked.tellsForSums(numbered(who), mine, other);
    }

    public int rests(int contest) {
        Contest asked = toldContest(contest);
        return asked == null ? NONE : searchedTable(asked).restCount;
    }

    public long rest(int contest, int r, int what) {
        Rest found = solvedRest(contest, r);
        return found == null ? NONE : found.tells(what);
    }

    public long mean(int contest, int r, int who, boolean lower) {
        Rest found = isOneOfTwo(who) ? solvedRest(contest, r) : null;
        if (found == null) {
            return 0;
        }
        return lower ? found.lowerOf(who) : found.upperOf(who);
    }

    public long lost(int contest, int r) {
        Rest found = solvedRest(contest, r);
        return found == null ? NONE : found.lostMillionths();
    }

    public int wrong(int contest, int r) {
        Rest found = solvedRest(contest, r);
        return found == null ? NONE : found.wrongMillionths(first.worth, second.worth);
    }

    public int least(int what) {
        int leastContest = NONE;
        long leastAmount = 0;
        for (int i = 0; i < contestCount && (what == 0 || what == 1); i++) {
            Rest found = solvedRest(i, 0);
            if (found != null) {
                long amount = what == 0
                    ? found.lostMillionths()
                    : found.wrongMillionths(first.worth, second.worth);
                if (leastContest == NONE || amount < leastAmount) {
                    leastContest = i;
                    leastAmount = amount;
                }
            }
        }
        return leastContest;
    }

    public int offer(int contest, int r, int who) {
        Rest found = isOneOfTwo(who) ? solvedRest(contest, r) : null;
        return found == null ? NO_GETS : found.leastNotBelowMean(who);
    }

    public int edge(int contest, int who) {
        Contest asked = toldContest(contest);
        if (asked == null || !isOneOfTwo(who)) {
            return NONE;
        }
        Table now = searchedTable(asked);
        edgeTable.copyCells(now);
        edgePlayer.become(numbered(who));
        for (int step = 1; step <= EDGE_STEPS && edgePlayer.worth < MOST_WORTH; step++) {
            edgePlayer.worth++;
            edgeTable.forgetAll();
            // With the same GETS as one worth before there are the same RESTS, too.
            if (edgeTable.fillFor(asked, edgePlayer)) {
                finder.search(edgeTable, first.purse, second.purse);
                if (edgeTable.restsUnlike(now)) {
                    return edgePlayer.worth;
                }
            }
        }
        return NONE;
    }

    public boolean sure(int who, int sum) {
        if (!isOneOfTwo(who) || !isSum(sum)) {
            return false;
        }
        ways.tellSure(who, sum);
        return true;
    }

    public boolean lot(int who, int sum, int parts) {
        if (!isOneOfTwo(who) || !isSum(sum) || !isParts(parts)) {
            return false;
        }
        ways.tellLot(who, sum, parts);
        return true;
    }

    public boolean answer(int who) {
        if (!isOneOfTwo(who)) {
            return false;
        }
        ways.tellAnswer(who);
        return true;
    }

    public int way(int who) {
        return isOneOfTwo(who) ? ways.kindOf(who) : NONE;
    }

    public int part(int contest, int who, int sum) {
        if (!isOneOfTwo(who) || !isSum(sum) || settledTable(contest) == null) {
            return NONE;
        }
        return ways.putOf(who, sum);
    }

    public long worth(int contest, int who) {
        Table table = isOneOfTwo(who) ? settledTable(contest) : null;
        return table == null ? NO_WORTH : ways.worthFor(table, who);
    }

    public int best(int contest, int who) {
        Table table = isOneOfTwo(who) ? settledTable(contest) : null;
        return table == null ? NONE : ways.bestSum(table, numbered(who));
    }

    public int judge(int contest) {
        Table table = settledTable(contest);
        if (table == null) {
            return NOT_WHOLE;
        }
        for (int who = 0; who < 2; who++) {
            int sum = ways.bestSum(table, numbered(who));
            if (ways.scoreOf(table, who, sum) * ALL_PARTS > ways.worthFor(table, who)) {
                return 10 * who + sum;
            }
        }
        return NONE;
    }

    public int sort(int who, int worth, int parts) {
        if (!isOneOfTwo(who) || !isWorth(worth) || !isParts(parts)) {
            return NONE;
        }
        return sorts.add(who, worth, parts);
    }

    public int sorted(int contest, int k, int what) {
        Contest asked = toldContest(contest);
        if (asked == null || k < 0 || what < 0 || what > 3) {
            return NONE;
        }
        int row = sorts.findRow(asked, first, second, k);
        if (row < 0) {
            return NONE;
        }
        int code = what % 2 == 0 ? row / FEW_CODES : row % FEW_CODES;
        if (what < 2) {
            return code;
        }
        return sorts.rises(what - 2, code) ? 1 : 0;
    }

    public int three(int contest, int k) {
        Contest asked = toldContest(contest);
        if (asked == null || k < 0) {
            return NONE;
        }
        long rows = trio.restingRows(asked, first, second, third);
        int seen = 0;
        for (int code = 0; code < FEW_CODES; code++) {
            if (((rows >>> code) & 1) != 0 && seen++ == k) {
                return code;
            }
        }
        return NONE;
    }

    public int idle(int contest) {
        Contest asked = toldContest(contest);
        if (asked == null) {
            return NONE;
        }
        return trio.idleBits(trio.restingRows(asked, first, second, third));
    }

    public long days(int contest, int q0, int q1, int n, int what) {
        Contest asked = toldContest(contest);
        if (asked == null || !isParts(q0) || !isParts(q1) || !isDays(n) || what < 0 || what > 6) {
            return NONE;
        }
        return daily.tells(asked, what == 1 ? first : second, q0, q1, n, what);
    }

    public int leave(int contest, int q1, int n) {
        Contest asked = toldContest(contest);
        if (asked == null || !isParts(q1) || !isDays(n)) {
            return NONE;
        }
        return daily.bestLeaving(asked, first, q1, n);
    }

    public int learn(int contest, int n, int who, int sum) {
        Contest asked = toldContest(contest);
        if (asked == null || n < 1 || n > MOST_LEARN_ROUNDS || !isOneOfTwo(who) || !isSum(sum)) {
            return NONE;
        }
        return rounds.learned(filledTable(asked), first, second, n, who * SUMS + sum);
    }

    public int cycle(int contest, int a, int b, int what) {
        Contest asked = toldContest(contest);
        if (asked == null || a < 0 || a > first.purse || b < 0 || b > second.purse) {
            return NONE;
        }
        if (what != 0 && what != 1) {
            return NONE;
        }
        return rounds.cycled(filledTable(asked), first, second, a * SUMS + b, what == 0);
    }

    public int run(int contest, int seed, int n, int what) {
        if (seed < 0 || seed > MOST_SEED || n < 1 || n > MOST_RUN_ROUNDS || what < 0 || what > 4) {
            return NO_RUN;
        }
        Table table = settledTable(contest);
        return table == null ? NO_RUN : ways.drawn(table, seed, n, what);
    }

    public int deal(int contest, int r, int who) {
        Rest found = isOneOfTwo(who) ? solvedRest(contest, r) : null;
        Contest asked = toldContest(contest);
        if (found == null || asked == null) {
            return NONE;
        }
        int pay = Math.max(0, found.leastNotBelowMean(1 - who));
        Player payer = numbered(who);
        int left = asked.tellsForSums(payer, payer.purse > 0 ? 1 : 0, 0) - pay;
        return left * found.lowerOf(who) >= found.upperOf(who) ? pay : NONE;
    }

    public int forget() {
        return sorts.clear();
    }

    public int count(int what) {
        switch (what) {
            case 0: return contestCount;
            case 1: return lastStatements();
            case 2: return taped;
            case 3: return sorts.countOf(0);
            case 4: return sorts.countOf(1);
            case 5: return ways.kindOf(0) == WAY_ANSWER && ways.kindOf(1) == WAY_ANSWER ? 1 : 0;
            case 6: case 7: case 8: return numbered(what - 6).worth;
            case 9: case 10: case 11: return numbered(what - 9).purse;
            default: return NONE;
        }
    }

    private static boolean isWorth(int worth) {
        return worth >= 0 && worth <= MOST_WORTH;
    }

    private static boolean isOneOfTwo(int who) {
        return who == 0 || who == 1;
    }

    private static boolean isSum(int sum) {
        return sum >= 0 && sum < SUMS;
    }

    private static boolean isParts(int parts) {
        return parts >= 0 && parts <= ALL_PARTS;
    }

    private static int outcomeOf(int mine, int other) {
        return mine > other ? WIN : mine < other ? LOSE : TIE;
    }

    private static boolean isDays(int n) {
        return n >= 1 && n <= MOST_DAYS;
    }

    private Player numbered(int who) {
        return who == 0 ? first : who == 1 ? second : third;
    }

    private void putOnTape(int number) {
        for (int shift = 24; shift >= 0; shift -= 8) {
            if (taped >= 0 && taped < tape.length) {
                tape[taped] = (number >>> shift) & 255;
                taped++;
            }
        }
    }

    private Contest toldContest(int contest) {
        boolean isTold = contest >= 0 && contest < contestCount && contest < contests.length;
        return isTold ? contests[contest] : null;
    }

    private int lastStatements() {
        Contest last = toldContest(contestCount - 1);
        return last == null ? 0 : last.statements;
    }

    private Table filledTable(Contest asked) {
        asked.table.fillFor(asked, first);
        asked.table.fillFor(asked, second);
        return asked.table;
    }

    private Table searchedTable(Contest asked) {
        Table table = asked.table;
        if (!table.isSearched) {
            table.fillFor(asked, first);
            table.fillFor(asked, second);
            finder.search(table, first.purse, second.purse);
        }
        return table;
    }

    /** The r-th REST, written into the one row that there is for it; null: none such. */
    private Rest solvedRest(int contest, int r) {
        Contest asked = toldContest(contest);
        if (asked == null) {
            return null;
        }
        Table table = searchedTable(asked);
        int pair = table.pairOfRest(r);
        if (pair == NONE || !finder.solve(table, pair, solved)) {
            return null;
        }
        return solved;
    }

    /** The CONTEST's table, with what both WAYS put in it worked out; null: not WHOLE, none such. */
    private Table settledTable(int contest) {
        Contest asked = toldContest(contest);
        if (asked == null || !ways.areWhole(first, second)) {
            return null;
        }
        Table table = filledTable(asked);
        ways.settle(table, first, second);
        return table;
    }

    private static long greatestDivisor(long a, long b) {
        long greater = a;
        long lesser = b;
        // Each two turns halve the greater one, so 200 are enough for every long.
        for (int turn = 0; turn < 200 && lesser != 0; turn++) {
            long rest = greater % lesser;
            greater = lesser;
            lesser = rest;
        }
        return greater;
    }

    /** Bits of the places from 0 to last that hold the greatest number of all there. */
    private static int bitsOfGreatest(int[] scores, int last) {
        int bits = 0;
        int greatest = 0;
        for (int i = 0; i <= last && i < scores.length; i++) {
            if (bits == 0 || scores[i] > greatest) {
                greatest = scores[i];
                bits = 1 << i;
            } else if (scores[i] == greatest) {
                bits |= 1 << i;
            }
        }
        return bits;
    }

    private static final class Player {
        private int number;
        private int worth = 0;
        private int purse = MOST_PURSE;

        private Player(int number) {
            this.number = number;
        }

        private void become(Player from) {
            number = from.number;
            worth = from.worth;
            purse = from.purse;
        }

        private int fewTop() {
            return Math.min(purse, FEW_SUMS - 1);
        }
    }

    /**
     * A CONTEST: its statements as steps for a stack. A number from 0 on is put on it, every other
     * step is the complement of a token's kind.
     */
    private static final class Contest {
        // Nine open in one another, with two results waiting in each, need no more than 24.
        private static final int STACK = 40;
        private static final int ASKED_WORDS = 6;

        private final int[] steps = new int[MOST_BYTES];
        private int length = 0;
        private final int[] outcomes = new int[MOST_STATEMENTS];
        private final int[] starts = new int[MOST_STATEMENTS];
        private final int[] conditions = new int[MOST_STATEMENTS];
        private final int[] ends = new int[MOST_STATEMENTS];
        private int statements = 0;
        private final int[] asked = new int[ASKED_WORDS];
        private final int[] stack = new int[STACK];
        private final Table table = new Table();

        private void clear() {
            length = 0;
            statements = 0;
        }

        private void copy(Contest from) {
            System.arraycopy(from.steps, 0, steps, 0, steps.length);
            System.arraycopy(from.outcomes, 0, outcomes, 0, outcomes.length);
            System.arraycopy(from.starts, 0, starts, 0, starts.length);
            System.arraycopy(from.conditions, 0, conditions, 0, conditions.length);
            System.arraycopy(from.ends, 0, ends, 0, ends.length);
            length = from.length;
            statements = from.statements;
        }

        private void addNumber(int number) {
            if (length >= 0 && length < steps.length) {
                steps[length] = number;
                length++;
            }
        }

        private void addStep(int kind) {
            addNumber(~kind);
        }

        private void addStatement(int outcome, int start, int condition) {
            if (statements >= 0 && statements < outcomes.length) {
                outcomes[statements] = outcome;
                starts[statements] = start;
                conditions[statements] = condition;
                ends[statements] = length;
                statements++;
            }
        }

        /** GETS for two SUMS, on no day. */
        private int tellsForSums(Player player, int mine, int other) {
            return tells(player, outcomeOf(mine, other), mine, other, 0);
        }

        private int tells(Player player, int outcome, int mine, int other, int day) {
            asked[0] = player.worth;
            asked[1] = mine;
            asked[2] = other;
            asked[3] = player.purse;
            asked[4] = player.number;
            asked[5] = day;
            for (int s = 0; s < statements && s < outcomes.length; s++) {
                int condition = conditions[s];
                if (outcomes[s] == outcome
                        && (condition == ends[s] || calculate(condition, ends[s]) != 0)) {
                    int result = calculate(starts[s], condition);
                    return Math.max(-MOST_GETS, Math.min(MOST_GETS, result));
                }
            }
            return 0;
        }

        private int calculate(int from, int to) {
            int top = 0;
            for (int i = Math.max(0, from); i < to && i < steps.length; i++) {
                int kind = ~steps[i];
                if (kind < 0 || isAsked(kind)) {
                    if (top < stack.length) {
                        stack[top] = kind < 0 ? steps[i] : asked[kind - ASK_WORTH];
                        top++;
                    }
                } else if (kind == NOT) {
                    if (top > 0) {
                        stack[top - 1] = 1 - stack[top - 1];
                    }
                } else if (top > 1) {
                    top--;
                    stack[top - 1] = joined(kind, stack[top - 1], stack[top]);
                }
            }
            return stack[0];
        }

        private static boolean isAsked(int kind) {
            return kind >= ASK_WORTH && kind <= ASK_DAY;
        }

        private static int joined(int kind, long left, long right) {
            long result = 0;
            switch (kind) {
                case PLUS: result = left + right; break;
                case MINUS: result = left - right; break;
                case TIMES: result = left * right; break;
                case OVER: result = right == 0 ? 0 : left / right; break;
                case LESS: result = left < right ? 1 : 0; break;
                case MORE: result = left > right ? 1 : 0; break;
                case SAME: result = left == right ? 1 : 0; break;
                case AND: result = left & right; break;
                case OR: result = left | right; break;
                default: break;
            }
            return (int) Math.max(-MOST_RESULT, Math.min(MOST_RESULT, result));
        }
    }

    /** Reads a text's tokens, and from them the steps of its statements or its FAULT. */
    private static final class Reader {
        private final int[] kinds = new int[MOST_BYTES + 1];
        private final int[] places = new int[MOST_BYTES + 1];
        private final int[] numbers = new int[MOST_BYTES + 1];
        private int tokens = 0;
        private int at = 0;
        private int fault = NONE;
        private final Contest draft = new Contest();

        /** The FAULT of the first bytes of the tape; NONE: the draft has their statements. */
        private int read(int[] tape, int length) {
            scan(tape, Math.min(length, tape.length));
            at = 0;
            fault = NONE;
            draft.clear();
            for (int s = 0; s <= MOST_STATEMENTS && fault == NONE && kind() != END; s++) {
                if (s == MOST_STATEMENTS) {
                    refuse();
                } else {
                    readStatement();
                }
            }
            return fault;
        }

        private void scan(int[] tape, int length) {
            tokens = 0;
            int place = 0;
            for (int turn = 0; turn < length && place < length; turn++) {
                place = scanToken(tape, place, length);
            }
            addToken(END, length, 0);
        }

        private int scanToken(int[] tape, int place, int length) {
            int sign = byteAt(tape, place, length);
            if (sign == ' ' || sign == '\n') {
                return place + 1;
            }
            int end = place + 1;
            if (isLetter(sign)) {
                for (; end < length && isLetter(byteAt(tape, end, length)); end++) { }
                addToken(kindOfWord(tape, place, end), place, 0);
            } else if (isDigit(sign)) {
                for (; end < length && isDigit(byteAt(tape, end, length)); end++) { }
                addToken(end - place > MOST_DIGITS ? BAD : NUMBER, place, numberOf(tape, place, end));
            } else {
                int found = SIGNS.indexOf((char) sign);
                addToken(found < 0 ? BAD : PLUS + found, place, 0);
            }
            return end;
        }

        private void addToken(int kind, int place, int number) {
            if (tokens >= 0 && tokens < kinds.length) {
                kinds[tokens] = kind;
                places[tokens] = place;
                numbers[tokens] = number;
                tokens++;
            }
        }

        private static int byteAt(int[] tape, int place, int end) {
            return place >= 0 && place < end && place < tape.length ? tape[place] : ' ';
        }

        private static boolean isLetter(int sign) {
            return sign >= 'a' && sign <= 'z';
        }

        private static boolean isDigit(int sign) {
            return sign >= '0' && sign <= '9';
        }

        private static int numberOf(int[] tape, int from, int end) {
            int number = 0;
            for (int i = from; i < end && i < from + MOST_DIGITS; i++) {
                number = number * 10 + byteAt(tape, i, end) - '0';
            }
            return number;
        }

        private static int kindOfWord(int[] tape, int from, int end) {
            for (int word = 0; word < WORD_COUNT && end - from <= WORD_WIDTH; word++) {
                if (isWord(tape, from, end, word * WORD_WIDTH)) {
                    return word;
                }
            }
            return BAD;
        }

        private static boolean isWord(int[] tape, int from, int end, int start) {
            for (int i = 0; i < WORD_WIDTH; i++) {
                int wordPlace = start + i;
                if (wordPlace < 0 || wordPlace >= WORDS.length()) {
                    return false;
                }
                if (WORDS.charAt(wordPlace) != byteAt(tape, from + i, end)) {
                    return false;
                }
            }
            return true;
        }

        /** The token that comes next. Behind a FAULT none fits any more, so that all reading ends. */
        private int kind() {
            return fault == NONE && at >= 0 && at < kinds.length ? kinds[at] : BAD;
        }

        private void next() {
            if (at < tokens - 1) {
                at++;
            }
        }

        private void refuse() {
            if (fault == NONE && at >= 0 && at < places.length) {
                fault = places[at];
            }
        }

        private void take(int kind) {
            if (kind() == kind) {
                next();
            } else {
                refuse();
            }
        }

        private boolean opens(int depth) {
            if (depth >= MOST_OPEN) {
                refuse();
                return false;
            }
            next();
            return true;
        }

        private void readStatement() {
            int outcome = kind();
            if (outcome != WIN && outcome != LOSE && outcome != TIE) {
                refuse();
                return;
            }
            next();
            int start = draft.length;
            readSum(0);
            int condition = draft.length;
            if (kind() == IF) {
                next();
                readAny(0);
            }
            take(END_STATEMENT);
            draft.addStatement(outcome, start, condition);
        }

        private void readAny(int depth) {
            readAll(depth);
            for (int i = 0; i < MOST_BYTES && kind() == OR; i++) {
                next();
                readAll(depth);
                draft.addStep(OR);
            }
        }

        private void readAll(int depth) {
            readOne(depth);
            for (int i = 0; i < MOST_BYTES && kind() == AND; i++) {
                next();
                readOne(depth);
                draft.addStep(AND);
            }
        }

        private void readOne(int depth) {
            if (kind() == NOT) {
                if (opens(depth)) {
                    readOne(depth + 1);
                    draft.addStep(NOT);
                }
            } else if (kind() == OPEN_SQUARE) {
                if (opens(depth)) {
                    readAny(depth + 1);
                    take(CLOSE_SQUARE);
                }
            } else {
                readSum(depth);
                int sign = kind();
                if (sign == LESS || sign == MORE || sign == SAME) {
                    next();
                    readSum(depth);
                    draft.addStep(sign);
                } else {
                    refuse();
                }
            }
        }

        private void readSum(int depth) {
            readProduct(depth);
            for (int i = 0; i < MOST_BYTES && (kind() == PLUS || kind() == MINUS); i++) {
                int sign = kind();
                next();
                readProduct(depth);
                draft.addStep(sign);
            }
        }

        private void readProduct(int depth) {
            readAtom(depth);
            for (int i = 0; i < MOST_BYTES && (kind() == TIMES || kind() == OVER); i++) {
                int sign = kind();
                next();
                readAtom(depth);
                draft.addStep(sign);
            }
        }

        private void readAtom(int depth) {
            int kind = kind();
            if (kind == NUMBER && at >= 0 && at < numbers.length) {
                draft.addNumber(numbers[at]);
                next();
            } else if (Contest.isAsked(kind)) {
                draft.addStep(kind);
                next();
            } else if (kind == OPEN_ROUND) {
                if (opens(depth)) {
                    readSum(depth + 1);
                    take(CLOSE_ROUND);
                }
            } else {
                refuse();
            }
        }
    }

    /** GETS of PLAYERS 0 and 1 in a CONTEST, and which couples of sets are RESTS there. */
    private static final class Table {
        private static final int MARK_BITS = 32;

        private final int[] cells = new int[2 * COUPLES];
        private int filledBits = 0;
        private final int[] marks = new int[PAIR_COUNT / MARK_BITS + 1];
        private boolean isSearched = false;
        private int restCount = 0;
        private int firstPair = NONE;

        private void forgetAll() {
            filledBits = 0;
            isSearched = false;
        }

        private void copyCells(Table from) {
            System.arraycopy(from.cells, 0, cells, 0, cells.length);
        }

        /** Fills in what one of both gets, if that isn't known: whether it changed anything. */
        private boolean fillFor(Contest contest, Player player) {
            boolean changes = false;
            int bit = 1 << player.number;
            for (int couple = 0; couple < COUPLES && (filledBits & bit) == 0; couple++) {
                int at = player.number * COUPLES + couple;
                int mine = couple / SUMS;
                int other = couple % SUMS;
                int told = contest.tells(player, outcomeOf(mine, other), mine, other, 0);
                if (at >= 0 && at < cells.length && cells[at] != told) {
                    cells[at] = told;
                    changes = true;
                }
            }
            filledBits |= bit;
            return changes;
        }

        private int cell(int who, int mine, int other) {
            int at = who * COUPLES + mine * SUMS + other;
            return at >= 0 && at < cells.length ? cells[at] : 0;
        }

        /** The least SUM up to the PURSE that gets a PLAYER most against another SUM. */
        private int bestAgainst(Player player, int other) {
            int best = 0;
            for (int sum = 1; sum <= player.purse; sum++) {
                if (cell(player.number, sum, other) > cell(player.number, best, other)) {
                    best = sum;
                }
            }
            return best;
        }

        private void clearRests() {
            Arrays.fill(marks, 0);
            restCount = 0;
            firstPair = NONE;
        }

        private void markRest(int pair) {
            int at = pair / MARK_BITS;
            if (pair >= 0 && at < marks.length) {
                marks[at] |= 1 << (pair % MARK_BITS);
                firstPair = restCount == 0 ? pair : firstPair;
                restCount++;
            }
        }

        private boolean restsUnlike(Table other) {
            return restCount != other.restCount || firstPair != other.firstPair;
        }

        /** The couple of sets that is the r-th REST; NONE: none such. */
        private int pairOfRest(int r) {
            if (r < 0 || r >= restCount) {
                return NONE;
            }
            int left = r;
            for (int at = 0; at < marks.length; at++) {
                int here = Integer.bitCount(marks[at]);
                if (left < here) {
                    return at * MARK_BITS + placeOfBit(marks[at], left);
                }
                left -= here;
            }
            return NONE;
        }

        private static int placeOfBit(int bits, int k) {
            int seen = 0;
            for (int place = 0; place < MARK_BITS; place++) {
                if (((bits >>> place) & 1) != 0 && seen++ == k) {
                    return place;
                }
            }
            return 0;
        }
    }

    /** One REST: sets, CHANCES and MEANS of both. */
    private static final class Rest {
        private int size = 0;
        private final int[] sets = new int[2];
        private final long[] chances = new long[2 * SUMS];
        private final long[] by = {1, 1};
        private final long[] uppers = new long[2];
        private final long[] lowers = {1, 1};

        private void clearChances() {
            Arrays.fill(chances, 0);
        }

        private void setChance(int who, int sum, long chance) {
            if (isOneOfTwo(who) && isSum(sum)) {
                chances[who * SUMS + sum] = chance;
            }
        }

        private void setRow(int who, int set, long all) {
            if (isOneOfTwo(who)) {
                sets[who] = set;
                by[who] = all;
            }
        }

        private void setMean(int who, long upper, long lower) {
            long common = greatestDivisor(lower, Math.abs(upper));
            if (isOneOfTwo(who) && common > 0) {
                uppers[who] = upper / common;
                lowers[who] = lower / common;
            }
        }

        private long upperOf(int who) {
            return isOneOfTwo(who) ? uppers[who] : 0;
        }

        private long lowerOf(int who) {
            return isOneOfTwo(who) ? lowers[who] : 0;
        }

        private long tells(int what) {
            if (what == 0) {
                return size;
            }
            if (what == 1 || what == 2) {
                return sets[what - 1];
            }
            if (what == 3 || what == 4) {
                return by[what - 3];
            }
            int who = what / 10 - 1;
            return isOneOfTwo(who) && isSum(what % 10) ? chances[who * SUMS + what % 10] : NONE;
        }

        private int leastNotBelowMean(int who) {
            long upper = upperOf(who);
            long lower = lowerOf(who);
            if (lower <= 0) {
                return 0;
            }
            // Cutting goes towards 0, which is upwards for what is below 0.
            return (int) (upper / lower + (upper % lower > 0 ? 1 : 0));
        }

        private long lostMillionths() {
            long lost = 0;
            for (int who = 0; who < 2; who++) {
                long sums = 0;
                for (int sum = 0; sum < SUMS; sum++) {
                    sums += sum * chances[who * SUMS + sum];
                }
                lost += by[who] > 0 ? sums * MILLION / by[who] : 0;
            }
            return lost;
        }

        private int wrongMillionths(int firstWorth, int secondWorth) {
            if (firstWorth == secondWorth) {
                return 0;
            }
            int less = firstWorth < secondWorth ? 0 : 1;
            long wins = 0;
            long ties = 0;
            for (int mine = 0; mine < SUMS; mine++) {
                ties += millionths(less, mine) * millionths(1 - less, mine);
                for (int other = 0; other < mine; other++) {
                    wins += millionths(less, mine) * millionths(1 - less, other);
                }
            }
            return (int) ((wins + ties / 2) / MILLION);
        }

        private long millionths(int who, int sum) {
            boolean isThere = isOneOfTwo(who) && isSum(sum) && by[who] > 0;
            return isThere ? chances[who * SUMS + sum] * MILLION / by[who] : 0;
        }
    }

    /** Tries all couples of sets of one to three SUMS, in the order in which RESTS stand. */
    private static final class Finder {
        // Each of three SUMS with each of both others.
        private static final int MOST_NEEDS = 6;

        private final int[] bits = new int[SET_COUNT];
        private final int[] members = new int[SET_COUNT * MOST_SET];
        private final int[] above = new int[2 * COUPLES];
        private final int[] needs = new int[2 * SET_COUNT * MOST_NEEDS];
        private final long[] gaps = new long[2 * MOST_SET];
        // The other's set and CHANCES (not made small) of the latest weigh().
        private final int[] others = new int[MOST_SET];
        private final long[] weights = new long[MOST_SET];
        private int weighed = 1;

        private Finder() {
            int set = 0;
            for (int size = 1; size <= MOST_SET; size++) {
                for (int subset = 1; subset < 1 << SUMS; subset++) {
                    if (Integer.bitCount(subset) == size && set < bits.length) {
                        bits[set] = subset;
                        writeMembers(set, subset);
                        set++;
                    }
                }
            }
        }

        private void writeMembers(int set, int subset) {
            int at = set * MOST_SET;
            for (int sum = 0; sum < SUMS; sum++) {
                if (((subset >>> sum) & 1) != 0 && at >= 0 && at < members.length) {
                    members[at] = sum;
                    at++;
                }
            }
        }

        private int bitsOf(int set) {
            return set >= 0 && set < bits.length ? bits[set] : 0;
        }

        private int member(int set, int place) {
            int at = set * MOST_SET + place;
            return at >= 0 && at < members.length ? members[at] : 0;
        }

        private void search(Table table, int firstPurse, int secondPurse) {
            table.clearRests();
            for (int who = 0; who < 2; who++) {
                compareSums(table, who);
                gatherNeeds(who);
            }
            for (int size = 1; size <= MOST_SET; size++) {
                int start = SET_STARTS[size - 1];
                int end = SET_STARTS[size];
                for (int mine = start; mine < end && bitsOf(mine) < 2 << firstPurse; mine++) {
                    for (int other = start; other < end && bitsOf(other) < 2 << secondPurse; other++) {
                        if (mayMix(0, size, mine, bitsOf(other)) && mayMix(1, size, other, bitsOf(mine))
                                && isBest(table, 0, mine, other, firstPurse)
                                && isBest(table, 1, other, mine, secondPurse)) {
                            int place = (mine - start) * (end - start) + other - start;
                            table.markRest(PAIR_STARTS[size - 1] + place);
                        }
                    }
                }
            }
            table.isSearched = true;
        }

        /** Of each two SUMS of a PLAYER: bits of the other's SUMS against which one gets more. */
        private void compareSums(Table table, int who) {
            for (int one = 0; one < SUMS; one++) {
                for (int two = 0; two < one; two++) {
                    int oneMore = 0;
                    int twoMore = 0;
                    for (int other = 0; other < SUMS; other++) {
                        int gap = table.cell(who, one, other) - table.cell(who, two, other);
                        oneMore |= gap > 0 ? 1 << other : 0;
                        twoMore |= gap < 0 ? 1 << other : 0;
                    }
                    setAbove(who, one, two, oneMore);
                    setAbove(who, two, one, twoMore);
                }
            }
        }

        private void setAbove(int who, int one, int two, int found) {
            int at = who * COUPLES + one * SUMS + two;
            if (at >= 0 && at < above.length) {
                above[at] = found;
            }
        }

        private int aboveOf(int who, int one, int two) {
            int at = who * COUPLES + one * SUMS + two;
            return at >= 0 && at < above.length ? above[at] : 0;
        }

        /** Of each set: the bits for each of its SUMS with each other one, in a row. */
        private void gatherNeeds(int who) {
            for (int set = 0; set < SET_COUNT; set++) {
                int at = (who * SET_COUNT + set) * MOST_NEEDS;
                int size = sizeOf(set);
                for (int place = 0; place < size * size; place++) {
                    int one = place / size;
                    int two = place % size;
                    if (one != two && at >= 0 && at < needs.length) {
                        needs[at] = aboveOf(who, member(set, one), member(set, two));
                        at++;
                    }
                }
            }
        }

        /**
         * Spares most couples the reckoning: with CHANCES all above 0, two SUMS get the same only if
         * each gets more against some SUM of the other set, or both the same against all of them;
         * and then there isn't just one row of CHANCES.
         */
        private boolean mayMix(int who, int size, int set, int against) {
            int start = (who * SET_COUNT + set) * MOST_NEEDS;
            int end = Math.min(start + size * (size - 1), needs.length);
            for (int at = Math.max(0, start); at < end; at++) {
                if ((needs[at] & against) == 0) {
                    return false;
                }
            }
            return true;
        }

        private static int sizeOf(int set) {
            return set < SET_STARTS[1] ? 1 : set < SET_STARTS[2] ? 2 : 3;
        }

        /** Whether the other's CHANCES for it are one row above 0 and no SUM up to the PURSE gets more. */
        private boolean isBest(Table table, int who, int mine, int other, int purse) {
            if (!weigh(table, who, mine, other)) {
                return false;
            }
            long value = against(table, who, member(mine, 0));
            for (int sum = 0; sum <= purse; sum++) {
                if (against(table, who, sum) > value) {
                    return false;
                }
            }
            return true;
        }

        /** What a SUM gets against the set and the weights that stand. */
        private long against(Table table, int who, int sum) {
            long value = 0;
            for (int i = 0; i < weighed && i < MOST_SET; i++) {
                value += weights[i] * table.cell(who, sum, others[i]);
            }
            return value;
        }

        /** The other's CHANCES with which all SUMS of a set get the same, as weights above 0. */
        private boolean weigh(Table table, int who, int mine, int other) {
            int one = member(mine, 0);
            int two = member(mine, 1);
            int three = member(mine, 2);
            weighed = sizeOf(other);
            for (int i = 0; i < weighed && i < MOST_SET; i++) {
                others[i] = member(other, i);
                int start = table.cell(who, one, others[i]);
                gaps[i] = start - table.cell(who, two, others[i]);
                gaps[MOST_SET + i] = start - table.cell(who, three, others[i]);
            }
            if (weighed == 1) {
                weights[0] = 1;
            } else if (weighed == 2) {
                weights[0] = gaps[1];
                weights[1] = -gaps[0];
            } else {
                weights[0] = gaps[1] * gaps[5] - gaps[2] * gaps[4];
                weights[1] = gaps[2] * gaps[3] - gaps[0] * gaps[5];
                weights[2] = gaps[0] * gaps[4] - gaps[1] * gaps[3];
            }
            return turnAbove(total());
        }

        private long total() {
            long total = 0;
            for (int i = 0; i < weighed && i < MOST_SET; i++) {
                total += weights[i];
            }
            return total;
        }

        /** Turns weights that are all below 0; a total of 0: there is no row, or more than one. */
        private boolean turnAbove(long total) {
            boolean areAbove = total != 0;
            for (int i = 0; i < weighed && i < MOST_SET; i++) {
                weights[i] = total < 0 ? -weights[i] : weights[i];
                areAbove = areAbove && weights[i] > 0;
            }
            return areAbove;
        }

        /** Writes out the REST of a couple of sets that the search found. */
        private boolean solve(Table table, int pair, Rest rest) {
            int size = pair < PAIR_STARTS[1] ? 1 : pair < PAIR_STARTS[2] ? 2 : 3;
            int start = SET_STARTS[size - 1];
            int width = SET_STARTS[size] - start;
            int place = pair - PAIR_STARTS[size - 1];
            if (place < 0 || width <= 0) {
                return false;
            }
            int mine = start + place / width;
            int other = start + place % width;
            rest.size = size;
            rest.clearChances();
            return writeSide(table, 0, mine, other, rest) && writeSide(table, 1, other, mine, rest);
        }

        /** What a PLAYER gets in the mean, and the other's CHANCES. */
        private boolean writeSide(Table table, int who, int mine, int other, Rest rest) {
            if (!weigh(table, who, mine, other)) {
                return false;
            }
            long all = total();
            long common = all;
            for (int i = 0; i < weighed && i < MOST_SET; i++) {
                common = greatestDivisor(common, weights[i]);
            }
            if (common <= 0) {
                return false;
            }
            rest.setMean(who, against(table, who, member(mine, 0)), all);
            rest.setRow(1 - who, bitsOf(other), all / common);
            for (int i = 0; i < weighed && i < MOST_SET; i++) {
                rest.setChance(1 - who, others[i], weights[i] / common);
            }
            return true;
        }
    }

    /** WAYS of PLAYERS 0 and 1, and what they put in by them. */
    private static final class Ways {
        private static final long FACTOR = 6364136223846793005L;
        private static final long ADDED = 1442695040888963407L;
        private static final int SHIFT = 33;

        private final int[] kinds = new int[2];
        private final int[] told = new int[2 * SUMS];
        private final int[] puts = new int[2 * SUMS];

        private int kindOf(int who) {
            return isOneOfTwo(who) ? kinds[who] : WAY_NONE;
        }

        private void tellSure(int who, int sum) {
            begin(who, WAY_SURE);
            setTold(who, sum, ALL_PARTS);
        }

        private void tellLot(int who, int sum, int parts) {
            if (kindOf(who) != WAY_LOTS) {
                begin(who, WAY_LOTS);
            }
            setTold(who, sum, parts);
        }

        private void tellAnswer(int who) {
            begin(who, WAY_ANSWER);
        }

        private void begin(int who, int kind) {
            for (int sum = 0; sum < SUMS; sum++) {
                setTold(who, sum, 0);
            }
            if (isOneOfTwo(who)) {
                kinds[who] = kind;
            }
        }

        private void setTold(int who, int sum, int parts) {
            if (isOneOfTwo(who) && isSum(sum)) {
                told[who * SUMS + sum] = parts;
            }
        }

        private int putOf(int who, int sum) {
            return isOneOfTwo(who) && isSum(sum) ? puts[who * SUMS + sum] : 0;
        }

        private boolean areWhole(Player first, Player second) {
            boolean firstAnswers = kinds[0] == WAY_ANSWER;
            boolean secondAnswers = kinds[1] == WAY_ANSWER;
            return (firstAnswers || tellsAll(first))
                && (secondAnswers || tellsAll(second))
                && !(firstAnswers && secondAnswers);
        }

        /** Whether SURE or LOTS are 1,000 parts, none above the PURSE. */
        private boolean tellsAll(Player player) {
            int all = 0;
            int within = 0;
            for (int sum = 0; sum < SUMS && isOneOfTwo(player.number); sum++) {
                int parts = told[player.number * SUMS + sum];
                all += parts;
                within += sum <= player.purse ? parts : 0;
            }
            return all == ALL_PARTS && within == ALL_PARTS;
        }

        /** Works out what both put in; of WAYS that are WHOLE one at most is ANSWER. */
        private void settle(Table table, Player first, Player second) {
            System.arraycopy(told, 0, puts, 0, puts.length);
            if (kinds[0] == WAY_ANSWER) {
                puts[bestSum(table, first)] = ALL_PARTS;
            } else if (kinds[1] == WAY_ANSWER) {
                puts[SUMS + bestSum(table, second)] = ALL_PARTS;
            }
        }

        /** What a SUM gets a PLAYER against all that the other one puts in. */
        private long scoreOf(Table table, int who, int sum) {
            long score = 0;
            for (int other = 0; other < SUMS; other++) {
                score += (long) table.cell(who, sum, other) * putOf(1 - who, other);
            }
            return score;
        }

        /** BEST: a SUM from 0 to 7. */
        private int bestSum(Table table, Player player) {
            int best = 0;
            long most = scoreOf(table, player.number, 0);
            for (int sum = 1; sum < SUMS && sum <= player.purse; sum++) {
                long score = scoreOf(table, player.number, sum);
                if (score > most) {
                    most = score;
                    best = sum;
                }
            }
            return best;
        }

        private long worthFor(Table table, int who) {
            long all = 0;
            for (int sum = 0; sum < SUMS; sum++) {
                all += scoreOf(table, who, sum) * putOf(who, sum);
            }
            return all;
        }

        /** RUN, with what both put in worked out. */
        private int drawn(Table table, int seed, int n, int what) {
            long z = seed;
            int all = 0;
            for (int round = 0; round < n; round++) {
                z = z * FACTOR + ADDED;
                int mine = drawnSum(0, z);
                z = z * FACTOR + ADDED;
                int other = drawnSum(1, z);
                switch (what) {
                    case 0: all += table.cell(0, mine, other); break;
                    case 1: all += table.cell(1, other, mine); break;
                    case 2: all += mine > other ? 1 : 0; break;
                    case 3: all += mine == other ? 1 : 0; break;
                    default: all += mine + other; break;
                }
            }
            return all;
        }

        private int drawnSum(int who, long z) {
            long v = (z >>> SHIFT) % ALL_PARTS;
            int together = 0;
            for (int sum = 0; sum < SUMS; sum++) {
                together += putOf(who, sum);
                if (together > v) {
                    return sum;
                }
            }
            return 0;
        }
    }

    /** LEARN and CYCLE: rounds in which each answers what the other one did. */
    private static final class Rounds {
        private final int[] scores = new int[2 * SUMS];
        private final int[] counts = new int[2 * SUMS];
        private final int[] turns = new int[COUPLES];

        private int learned(Table table, Player first, Player second, int n, int asked) {
            Arrays.fill(scores, 0);
            Arrays.fill(counts, 0);
            addScores(table, 0, 0);
            for (int round = 0; round < n; round++) {
                int mine = bestScore(first);
                int other = bestScore(second);
                counts[mine]++;
                counts[SUMS + other]++;
                // The 0 that nobody put in counts in the first round alone.
                if (round == 0) {
                    Arrays.fill(scores, 0);
                }
                addScores(table, mine, other);
            }
            return asked >= 0 && asked < counts.length ? counts[asked] : 0;
        }

        private void addScores(Table table, int mine, int other) {
            for (int sum = 0; sum < SUMS; sum++) {
                scores[sum] += table.cell(0, sum, other);
                scores[SUMS + sum] += table.cell(1, sum, mine);
            }
        }

        /** The least SUM up to the PURSE, from 0 to 7, with the greatest score. */
        private int bestScore(Player player) {
            int start = player.number == 0 ? 0 : SUMS;
            int best = 0;
            for (int sum = 1; sum < SUMS && sum <= player.purse; sum++) {
                if (scores[start + sum] > scores[start + best]) {
                    best = sum;
                }
            }
            return best;
        }

        /** From a couple (8 times 0's SUM, and 1's): the TURN that comes back, or the one to which. */
        private int cycled(Table table, Player first, Player second, int start, boolean later) {
            Arrays.fill(turns, NONE);
            int couple = start;
            // There are 64 couples, so one comes back by the 64th TURN.
            for (int turn = 0; turn <= COUPLES && couple >= 0 && couple < turns.length; turn++) {
                if (turns[couple] != NONE) {
                    return later ? turn : turns[couple];
                }
                turns[couple] = turn;
                int mine = table.bestAgainst(first, couple % SUMS);
                couple = mine * SUMS + table.bestAgainst(second, mine);
            }
            return NONE;
        }
    }

    /** SORTS of PLAYERS 0 and 1, who know their own alone. */
    private static final class Sorts {
        private final int[] counts = new int[2];
        private final int[] worths = new int[2 * MOST_SORTS];
        private final int[] shares = new int[2 * MOST_SORTS];
        private final int[] cells = new int[2 * MOST_SORTS * FEW_SUMS * FEW_SUMS];
        // Of each code four bits for each SORT: what it puts in, and what's best against the code.
        private final int[] putBits = new int[2 * FEW_CODES];
        private final int[] bestBits = new int[2 * FEW_CODES];
        private final int[] scores = new int[FEW_SUMS];
        private final Player asked = new Player(0);

        private int countOf(int who) {
            return isOneOfTwo(who) ? counts[who] : 0;
        }

        private int add(int who, int worth, int parts) {
            int number = countOf(who);
            if (!isOneOfTwo(who) || number >= MOST_SORTS) {
                return NONE;
            }
            worths[who * MOST_SORTS + number] = worth;
            shares[who * MOST_SORTS + number] = parts;
            counts[who]++;
            return number;
        }

        private int clear() {
            int all = counts[0] + counts[1];
            Arrays.fill(counts, 0);
            return all;
        }

        private int worthOf(int who, int sort) {
            int at = who * MOST_SORTS + sort;
            return at >= 0 && at < worths.length ? worths[at] : 0;
        }

        private int shareOf(int who, int sort) {
            int at = who * MOST_SORTS + sort;
            return at >= 0 && at < shares.length ? shares[at] : 0;
        }

        private boolean isShared(int who) {
            int all = 0;
            for (int sort = 0; sort < countOf(who); sort++) {
                all += shareOf(who, sort);
            }
            return all == ALL_PARTS;
        }

        private static int sumIn(int code, int sort) {
            return (code >>> (2 * sort)) & (FEW_SUMS - 1);
        }

        private boolean rises(int who, int code) {
            for (int more = 0; more < countOf(who); more++) {
                for (int less = 0; less < countOf(who); less++) {
                    if (worthOf(who, more) > worthOf(who, less) && sumIn(code, more) < sumIn(code, less)) {
                        return false;
                    }
                }
            }
            return true;
        }

        /** The k-th SORTED as 64 times 0's code and 1's; NONE: none such. */
        private int findRow(Contest contest, Player first, Player second, int k) {
            if (!isShared(0) || !isShared(1)) {
                return NONE;
            }
            fillCells(contest, first);
            fillCells(contest, second);
            fillPuts(first);
            fillPuts(second);
            fillBests(first);
            fillBests(second);
            int seen = 0;
            for (int row = 0; row < FEW_CODES * FEW_CODES; row++) {
                if (isAtRest(row / FEW_CODES, row % FEW_CODES) && seen++ == k) {
                    return row;
                }
            }
            return NONE;
        }

        private static int placeOfCell(int who, int sort, int mine, int other) {
            return ((who * MOST_SORTS + sort) * FEW_SUMS + mine) * FEW_SUMS + other;
        }

        private void fillCells(Contest contest, Player player) {
            asked.become(player);
            for (int sort = 0; sort < countOf(player.number); sort++) {
                asked.worth = worthOf(player.number, sort);
                for (int couple = 0; couple < FEW_SUMS * FEW_SUMS; couple++) {
                    int mine = couple / FEW_SUMS;
                    int other = couple % FEW_SUMS;
                    int at = placeOfCell(player.number, sort, mine, other);
                    if (at >= 0 && at < cells.length) {
                        cells[at] = contest.tellsForSums(asked, mine, other);
                    }
                }
            }
        }

        private void fillPuts(Player player) {
            for (int code = 0; code < FEW_CODES; code++) {
                int at = player.number * FEW_CODES + code;
                if (at >= 0 && at < putBits.length) {
                    putBits[at] = bitsPut(player, code);
                }
            }
        }

        /** 0: no such code, as there's no such SORT or a SUM is above the PURSE. */
        private int bitsPut(Player player, int code) {
            int bits = 0;
            for (int sort = 0; sort < MOST_SORTS; sort++) {
                int sum = sumIn(code, sort);
                int top = sort < countOf(player.number) ? player.fewTop() : 0;
                if (sum > top) {
                    return 0;
                }
                bits |= sort < countOf(player.number) ? 1 << (sort * FEW_SUMS + sum) : 0;
            }
            return bits;
        }

        private void fillBests(Player player) {
            for (int code = 0; code < FEW_CODES; code++) {
                int bits = 0;
                for (int sort = 0; sort < countOf(player.number); sort++) {
                    bits |= bestAgainstCode(player, sort, code) << (sort * FEW_SUMS);
                }
                int at = player.number * FEW_CODES + code;
                if (at >= 0 && at < bestBits.length) {
                    bestBits[at] = bits;
                }
            }
        }

        /** Bits of the SUMS that get a SORT most against the other's code. */
        private int bestAgainstCode(Player player, int sort, int code) {
            int who = player.number;
            for (int mine = 0; mine < scores.length; mine++) {
                scores[mine] = 0;
                for (int other = 0; other < countOf(1 - who); other++) {
                    int at = placeOfCell(who, sort, mine, sumIn(code, other));
                    if (at >= 0 && at < cells.length) {
                        scores[mine] += shareOf(1 - who, other) * cells[at];
                    }
                }
            }
            return bitsOfGreatest(scores, player.fewTop());
        }

        private boolean isAtRest(int firstCode, int secondCode) {
            if (firstCode < 0 || firstCode >= FEW_CODES || secondCode < 0 || secondCode >= FEW_CODES) {
                return false;
            }
            int firstPuts = putBits[firstCode];
            int secondPuts = putBits[FEW_CODES + secondCode];
            return firstPuts != 0 && secondPuts != 0
                && (firstPuts & ~bestBits[secondCode]) == 0
                && (secondPuts & ~bestBits[FEW_CODES + firstCode]) == 0;
        }
    }

    /** THREE and IDLE: each of three against the greater of both others' SUMS. */
    private static final class Trio {
        private static final int PLAYERS = 3;

        private final int[] bestBits = new int[PLAYERS * FEW_SUMS];
        private final int[] scores = new int[FEW_SUMS];

        /** A bit for each code that is at rest. */
        private long restingRows(Contest contest, Player first, Player second, Player third) {
            fillBests(contest, first);
            fillBests(contest, second);
            fillBests(contest, third);
            long rows = 0;
            for (int code = 0; code < FEW_CODES; code++) {
                int a = sumIn(code, 0);
                int b = sumIn(code, 1);
                int c = sumIn(code, 2);
                if (isBest(0, a, Math.max(b, c)) && isBest(1, b, Math.max(a, c))
                        && isBest(2, c, Math.max(a, b))) {
                    rows |= 1L << code;
                }
            }
            return rows;
        }

        private static int sumIn(int code, int who) {
            return (code >>> (2 * (2 - who))) & (FEW_SUMS - 1);
        }

        private void fillBests(Contest contest, Player player) {
            for (int other = 0; other < FEW_SUMS; other++) {
                for (int mine = 0; mine < scores.length; mine++) {
                    scores[mine] = contest.tellsForSums(player, mine, other);
                }
                int at = player.number * FEW_SUMS + other;
                if (at >= 0 && at < bestBits.length) {
                    bestBits[at] = bitsOfGreatest(scores, player.fewTop());
                }
            }
        }

        private boolean isBest(int who, int mine, int other) {
            int at = who * FEW_SUMS + other;
            return at >= 0 && at < bestBits.length && ((bestBits[at] >>> mine) & 1) != 0;
        }

        private int idleBits(long rows) {
            int idle = rows == 0 ? 0 : (1 << PLAYERS) - 1;
            for (int code = 0; code < FEW_CODES; code++) {
                for (int who = 0; who < PLAYERS && ((rows >>> code) & 1) != 0; who++) {
                    idle &= sumIn(code, who) == 0 ? idle : ~(1 << who);
                }
            }
            return idle;
        }
    }

    /** DAYS and LEAVE. */
    private static final class Days {
        private final long[] masses = new long[LEAVE_CHOICES];
        private final long[] totals = new long[LEAVE_CHOICES];

        /** The part of what holds out that goes by two chances in parts of 1,000. */
        private static long share(long mass, int one, int two) {
            return mass * one * two / MILLION;
        }

        private long tells(Contest contest, Player player, int q0, int q1, int n, int what) {
            long mass = FIRST_MASS;
            long all = 0;
            for (int day = 1; day <= n; day++) {
                long both = share(mass, q0, q1);
                long firstAlone = share(mass, q0, ALL_PARTS - q1);
                long secondAlone = share(mass, q1, ALL_PARTS - q0);
                mass -= both + firstAlone + secondAlone;
                switch (what) {
                    case 1: all += dayGets(contest, player, day, both, firstAlone, secondAlone); break;
                    case 2: all += dayGets(contest, player, day, both, secondAlone, firstAlone); break;
                    case 3: all += secondAlone; break;
                    case 4: all += firstAlone; break;
                    case 5: all += both; break;
                    default: all += day * (both + firstAlone + secondAlone); break;
                }
            }
            return what == 0 ? mass : all;
        }

        private static long dayGets(Contest contest, Player player, int day, long tied, long lost, long won) {
            return contest.tells(player, TIE, day, day, day) * tied
                + contest.tells(player, LOSE, day, day, day) * lost
                + contest.tells(player, WIN, day, day, day) * won;
        }

        /** All choices go through the days together, as GETS of a day are the same for each. */
        private int bestLeaving(Contest contest, Player player, int q1, int n) {
            Arrays.fill(masses, FIRST_MASS);
            Arrays.fill(totals, 0);
            for (int day = 1; day <= n; day++) {
                long tie = contest.tells(player, TIE, day, day, day);
                long lose = contest.tells(player, LOSE, day, day, day);
                long win = contest.tells(player, WIN, day, day, day);
                for (int i = 0; i < masses.length && i < totals.length; i++) {
                    int q0 = i * LEAVE_STEP;
                    long both = share(masses[i], q0, q1);
                    long firstAlone = share(masses[i], q0, ALL_PARTS - q1);
                    long secondAlone = share(masses[i], q1, ALL_PARTS - q0);
                    masses[i] -= both + firstAlone + secondAlone;
                    totals[i] += tie * both + lose * firstAlone + win * secondAlone;
                }
            }
            int best = 0;
            for (int i = 1; i < totals.length; i++) {
                if (totals[i] > totals[best]) {
                    best = i;
                }
            }
            return best * LEAVE_STEP;
        }
    }
}
