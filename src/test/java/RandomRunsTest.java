import java.util.ArrayList;
import java.util.List;
import java.util.Random;

/** Runs of calls made by chance (always the same ones), each answer held against the model's. */
public final class RandomRunsTest {
    private final Random random;
    private final Texts texts;
    private final HoldOuts x = new HoldOuts();
    private final Model model = new Model();
    private final List<String> calls = new ArrayList<>();
    private int wrong = 0;

    private RandomRunsTest(long seed) {
        random = new Random(seed);
        texts = new Texts(random);
    }

    public static void main(String[] args) {
        int runs = args.length > 0 ? Integer.parseInt(args[0]) : 400;
        long start = args.length > 1 ? Long.parseLong(args[1]) : 1;
        int wrong = 0;
        for (int i = 0; i < runs && wrong == 0; i++) {
            wrong += new RandomRunsTest(start + i).playRun();
        }
        for (int i = 0; i < runs * 10 && wrong == 0; i++) {
            wrong += new RandomRunsTest(start + 1_000_000 + i).playFaults();
        }
        System.out.println(wrong == 0 ? "random runs: all answers are as the model's" : "random runs: WRONG");
        if (wrong != 0) {
            System.exit(1);
        }
    }

    private void due(String call, long got, long want) {
        calls.add(call + " -> " + got);
        if (got != want) {
            wrong++;
            System.out.println("the model answers " + want + " to the last of these:");
            calls.forEach(line -> System.out.println("  " + line));
        }
    }

    private static long number(boolean answer) {
        return answer ? 1 : 0;
    }

    /** From low to high, now and then one or more beyond. */
    private int around(int low, int high) {
        int pick = random.nextInt(40);
        if (pick == 0) {
            return low - 1;
        }
        if (pick == 1) {
            return high + 1;
        }
        if (pick == 2) {
            return random.nextInt();
        }
        return low + random.nextInt(high - low + 1);
    }

    private int aContest() {
        return around(0, Math.max(0, model.count(0) - 1));
    }

    private int playFaults() {
        for (int i = 0; i < 8 && wrong == 0; i++) {
            tell(texts.spoiled());
        }
        return wrong;
    }

    private int playRun() {
        boolean wide = random.nextInt(4) == 0;
        players(wide);
        for (int i = 1 + random.nextInt(4); i > 0; i--) {
            tell(texts.contest());
        }
        for (int i = 0; i < 150 && wrong == 0; i++) {
            int pick = random.nextInt(100);
            if (pick < 2) {
                players(wide);
            } else if (pick < 4) {
                tell(random.nextBoolean() ? texts.contest() : texts.spoiled());
            } else if (pick < 40) {
                askRests(wide);
            } else if (pick < 70) {
                tellOrAskWays();
            } else if (pick < 85) {
                tellOrAskSorts();
            } else {
                askRounds();
            }
        }
        return wrong;
    }

    private void players(boolean wide) {
        for (int who = 0; who < 3; who++) {
            int worth = random.nextInt(12) == 0 ? around(950, 999) : around(0, 25);
            int purse = around(0, wide ? 7 : 4);
            due("player(" + who + ", " + worth + ", " + purse + ")",
                number(x.player(who, worth, purse)), number(model.player(who, worth, purse)));
        }
        int who = around(0, 2);
        due("player(" + who + ", 3, 3)", number(x.player(who, 3, 3)), number(model.player(who, 3, 3)));
    }

    private void tell(String text) {
        for (int from = 0; from < text.length(); from += 20) {
            int[] n = Texts.numbers(text, from);
            due("feed(" + n[0] + ", " + n[1] + ", " + n[2] + ", " + n[3] + ", " + n[4] + ")",
                x.feed(n[0], n[1], n[2], n[3], n[4]), model.feed(n[0], n[1], n[2], n[3], n[4]));
        }
        int length = random.nextInt(30) == 0 ? around(0, text.length()) : text.length();
        due("contest(" + length + ") of " + text, x.contest(length), model.contest(length));
        due("fault()", x.fault(), model.fault());
        for (int what = 0; what < 3; what++) {
            due("count(" + what + ")", x.count(what), model.count(what));
        }
        // A text whose contest() did nothing would stand before the next one.
        if (model.count(2) > 0) {
            due("contest(0)", x.contest(0), model.contest(0));
        }
    }

    private void askRests(boolean wide) {
        int c = aContest();
        int all = model.rests(c);
        int r = around(0, Math.max(0, all - 1));
        int who = around(0, 1);
        switch (random.nextInt(10)) {
            case 0:
                due("rests(" + c + ")", x.rests(c), all);
                break;
            case 1: case 2: case 3:
                int what = around(0, 28);
                due("rest(" + c + ", " + r + ", " + what + ")", x.rest(c, r, what), model.rest(c, r, what));
                break;
            case 4:
                boolean lower = random.nextBoolean();
                due("mean(" + c + ", " + r + ", " + who + ", " + lower + ")",
                    x.mean(c, r, who, lower), model.mean(c, r, who, lower));
                break;
            case 5:
                due("lost(" + c + ", " + r + ")", x.lost(c, r), model.lost(c, r));
                break;
            case 6:
                due("wrong(" + c + ", " + r + ")", x.wrong(c, r), model.wrong(c, r));
                break;
            case 7:
                due("offer(" + c + ", " + r + ", " + who + ")", x.offer(c, r, who), model.offer(c, r, who));
                break;
            case 8:
                due("deal(" + c + ", " + r + ", " + who + ")", x.deal(c, r, who), model.deal(c, r, who));
                break;
            default:
                askLeastOrEdge(c, who, wide);
        }
    }

    private void askLeastOrEdge(int c, int who, boolean wide) {
        if (random.nextInt(3) > 0) {
            int what = around(0, 1);
            due("least(" + what + ")", x.least(what), model.least(what));
        } else if (!wide || random.nextInt(4) == 0) {
            due("edge(" + c + ", " + who + ")", x.edge(c, who), model.edge(c, who));
        }
    }

    private void tellOrAskWays() {
        int c = aContest();
        int who = around(0, 1);
        int sum = around(0, 7);
        switch (random.nextInt(12)) {
            case 0:
                int low = random.nextInt(4);
                due("sure(" + who + ", " + low + ")", number(x.sure(who, low)), number(model.sure(who, low)));
                due("sure(2, " + sum + ")", number(x.sure(2, sum)), number(model.sure(2, sum)));
                break;
            case 1:
                due("sure(" + who + ", " + sum + ")", number(x.sure(who, sum)), number(model.sure(who, sum)));
                break;
            case 2:
                lots(who);
                break;
            case 3:
                int parts = around(0, 1000);
                due("lot(" + who + ", " + sum + ", " + parts + ")",
                    number(x.lot(who, sum, parts)), number(model.lot(who, sum, parts)));
                break;
            case 4:
                due("answer(" + who + ")", number(x.answer(who)), number(model.answer(who)));
                break;
            case 5:
                due("way(" + who + ")", x.way(who), model.way(who));
                due("count(5)", x.count(5), model.count(5));
                break;
            case 6:
                due("part(" + c + ", " + who + ", " + sum + ")", x.part(c, who, sum), model.part(c, who, sum));
                break;
            case 7:
                due("worth(" + c + ", " + who + ")", x.worth(c, who), model.worth(c, who));
                break;
            case 8:
                due("best(" + c + ", " + who + ")", x.best(c, who), model.best(c, who));
                break;
            case 9:
                due("judge(" + c + ")", x.judge(c), model.judge(c));
                break;
            default:
                int seed = around(0, 999_999_999);
                int n = random.nextInt(5) == 0 ? around(1, 1000) : around(1, 20);
                int what = around(0, 4);
                due("run(" + c + ", " + seed + ", " + n + ", " + what + ")",
                    x.run(c, seed, n, what), model.run(c, seed, n, what));
        }
    }

    /** Parts that are 1,000 together, for SUMS that most PURSES have. */
    private void lots(int who) {
        due("sure(" + who + ", 0)", number(x.sure(who, 0)), number(model.sure(who, 0)));
        int left = 1000;
        for (int sum = 0; sum < 4; sum++) {
            int parts = sum == 3 ? left : random.nextInt(left + 1);
            left -= parts;
            due("lot(" + who + ", " + sum + ", " + parts + ")",
                number(x.lot(who, sum, parts)), number(model.lot(who, sum, parts)));
        }
    }

    private void tellOrAskSorts() {
        int c = aContest();
        switch (random.nextInt(8)) {
            case 0:
                due("forget()", x.forget(), model.forget());
                wholeSorts(0);
                wholeSorts(1);
                break;
            case 1:
                int who = around(0, 1);
                int worth = around(0, 999);
                int parts = around(0, 1000);
                due("sort(" + who + ", " + worth + ", " + parts + ")",
                    x.sort(who, worth, parts), model.sort(who, worth, parts));
                break;
            case 2:
                int what = around(0, 11);
                due("count(" + what + ")", x.count(what), model.count(what));
                break;
            case 3:
                int k = around(0, 3);
                due("three(" + c + ", " + k + ")", x.three(c, k), model.three(c, k));
                break;
            case 4:
                due("idle(" + c + ")", x.idle(c), model.idle(c));
                break;
            default:
                int row = random.nextInt(4) == 0 ? around(0, 20) : around(0, 2);
                int asked = around(0, 3);
                due("sorted(" + c + ", " + row + ", " + asked + ")",
                    x.sorted(c, row, asked), model.sorted(c, row, asked));
        }
    }

    private void wholeSorts(int who) {
        int left = 1000;
        int all = 1 + random.nextInt(3);
        for (int i = 0; i < all; i++) {
            int parts = i == all - 1 ? left : random.nextInt(left + 1);
            int worth = random.nextInt(20);
            left -= parts;
            due("sort(" + who + ", " + worth + ", " + parts + ")",
                x.sort(who, worth, parts), model.sort(who, worth, parts));
        }
    }

    private void askRounds() {
        int c = aContest();
        int q0 = around(0, 1000);
        int q1 = random.nextBoolean() ? around(0, 1000) : around(0, 100);
        int n = random.nextInt(5) == 0 ? around(1, 400) : around(1, 20);
        int mine = around(0, 999);
        int other = random.nextInt(4) == 0 ? mine : around(0, 9);
        switch (random.nextInt(6)) {
            case 0: case 1:
                int what = around(0, 6);
                due("days(" + c + ", " + q0 + ", " + q1 + ", " + n + ", " + what + ")",
                    x.days(c, q0, q1, n, what), model.days(c, q0, q1, n, what));
                break;
            case 2:
                int few = random.nextInt(10) == 0 ? n : around(1, 10);
                due("leave(" + c + ", " + q1 + ", " + few + ")", x.leave(c, q1, few), model.leave(c, q1, few));
                break;
            case 3:
                int who = around(0, 1);
                int sum = around(0, 7);
                int rounds = random.nextInt(10) == 0 ? around(1, 500) : around(1, 15);
                due("learn(" + c + ", " + rounds + ", " + who + ", " + sum + ")",
                    x.learn(c, rounds, who, sum), model.learn(c, rounds, who, sum));
                break;
            case 4:
                int a = around(0, model.purses[0]);
                int b = around(0, model.purses[1]);
                int which = around(0, 1);
                due("cycle(" + c + ", " + a + ", " + b + ", " + which + ")",
                    x.cycle(c, a, b, which), model.cycle(c, a, b, which));
                break;
            default:
                int player = around(0, 2);
                due("gets(" + c + ", " + player + ", " + mine + ", " + other + ")",
                    x.gets(c, player, mine, other), model.gets(c, player, mine, other));
        }
    }
}
