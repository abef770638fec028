/** The document's promises one by one, with answers worked out by hand. */
public final class PromisesTest {
    private static final String CLASSIC = "win worth-mine;lose 0-mine;tie worth/2-mine;";
    // 0 wants to put in the same, 1 another SUM: chances of one half with a PURSE of 1.
    private static final String PENNIES = "tie 1-who;win who;lose who;";
    // 1 beats 0, 2 beats 1, 0 beats 2.
    private static final String THIRDS =
        "tie 0;win 1 if mine-other=1;win 0-1;lose 0-1 if other-mine=1;lose 1;";
    // Only winning by SUM 1 against 0 gets anything: WORTH less 3.
    private static final String STEP = "win worth-3*mine;";
    private static final long NO_WORTH = -1_000_000_000_000L;
    private static final int NO_RUN = -1_000_000_000;

    private static int wrong = 0;
    private static int asked = 0;

    private static void due(String call, long got, long want) {
        asked++;
        if (got != want) {
            wrong++;
            System.out.println(call + " answered " + got + ", due is " + want);
        }
    }

    private static void due(String call, boolean got, boolean want) {
        due(call, got ? 1 : 0, want ? 1 : 0);
    }

    public static void main(String[] args) {
        newObject();
        player();
        feed();
        contest();
        fault();
        faultOfNesting();
        faultOfMany();
        gets();
        getsConditions();
        rests();
        restsInOrder();
        restAndMean();
        lostAndWrong();
        least();
        offer();
        edge();
        sureLotAnswerWay();
        part();
        worthBestJudge();
        sort();
        sorted();
        three();
        idle();
        days();
        leave();
        learn();
        cycle();
        run();
        deal();
        forget();
        count();
        System.out.println(wrong == 0
            ? "promises: all " + asked + " answers are as due" : "promises: " + wrong + " are not as due");
        if (wrong != 0) {
            System.exit(1);
        }
    }

    private static HoldOuts two(int worth0, int purse0, int worth1, int purse1, String... texts) {
        HoldOuts x = Texts.with(texts);
        x.player(0, worth0, purse0);
        x.player(1, worth1, purse1);
        return x;
    }

    private static void newObject() {
        HoldOuts x = new HoldOuts();
        long[] wanted = {0, 0, 0, 0, 0, 0, 0, 0, 0, 7, 7, 7, -1};
        for (int what = 0; what < wanted.length; what++) {
            due("1: count(" + what + ")", x.count(what), wanted[what]);
        }
        due("1: fault()", x.fault(), -1);
        due("1: way(0)", x.way(0), 0);
        due("1: way(1)", x.way(1), 0);
        due("1: least(0)", x.least(0), -1);
        due("1: NONE", HoldOuts.NONE, -1);
    }

    private static void player() {
        HoldOuts x = Texts.with(CLASSIC);
        due("2: player(0, 5, 3)", x.player(0, 5, 3), true);
        due("2: player(1, 0, 0)", x.player(1, 0, 0), true);
        due("2: player(2, 999, 7)", x.player(2, 999, 7), true);
        int[][] refused = {{-1, 1, 1}, {3, 1, 1}, {0, -1, 1}, {0, 1000, 1}, {0, 1, -1}, {0, 1, 8},
            {Integer.MIN_VALUE, 1, 1}, {0, Integer.MAX_VALUE, 1}, {2, 1, Integer.MAX_VALUE}};
        for (int[] r : refused) {
            due("2: player(" + r[0] + ", " + r[1] + ", " + r[2] + ")", x.player(r[0], r[1], r[2]), false);
        }
        long[] wanted = {5, 0, 999, 3, 0, 7};
        for (int i = 0; i < wanted.length; i++) {
            due("2: count(" + (6 + i) + ")", x.count(6 + i), wanted[i]);
        }
        // What was worked out before must not outlive the WORTH it was worked out with.
        HoldOuts y = two(0, 1, 0, 1, STEP);
        due("2: rests with 0, 0", y.rests(0), 2);
        due("2: player(0, 3, 1)", y.player(0, 3, 1), true);
        due("2: rests with 3, 0", y.rests(0), 3);
        due("2: player(1, 9, 0)", y.player(1, 9, 0), true);
        due("2: rests with 1's purse 0", y.rests(0), 2);
    }

    private static void feed() {
        HoldOuts x = new HoldOuts();
        due("3: feed", x.feed(0x77696E20, 0x333B0000, 0, 0, 0), 20);
        due("3: contest(6)", x.contest(6), 0);
        due("3: gets", x.gets(0, 0, 1, 0), 3);
        // The highest byte is the first one, and bytes above 127 stay what they are.
        x.feed(0xFF6E6977, 0, 0, 0, 0);
        due("3: contest(1)", x.contest(1), -1);
        due("3: fault()", x.fault(), 0);
        for (int i = 1; i <= 25; i++) {
            due("3: feed number " + i, x.feed(-1, -1, -1, -1, -1), 20 * i);
        }
        due("3: feed above 500", x.feed(1, 2, 3, 4, 5), -1);
        due("3: count(2)", x.count(2), 500);
        due("3: contest(0)", x.contest(0), 1);
        due("3: feed again", x.feed(1, 2, 3, 4, 5), 20);
    }

    private static void contest() {
        HoldOuts x = new HoldOuts();
        due("4: contest(-1)", x.contest(-1), -2);
        due("4: contest(1) of nothing", x.contest(1), -2);
        due("4: contest(0)", x.contest(0), 0);
        due("4: gets of no statement", x.gets(0, 0, 5, 1), 0);
        x.feed(0x77696E20, 0x333B2020, 0x20202020, 0x20202020, 0x20202020);
        due("4: contest(21)", x.contest(21), -2);
        due("4: the tape stays", x.count(2), 20);
        due("4: contest(7)", x.contest(7), 1);
        due("4: the tape is empty", x.count(2), 0);
        due("4: a fault", Texts.tell(x, "win win;"), -1);
        due("4: the tape is empty behind a fault", x.count(2), 0);
        due("4: a fault is no contest", x.count(0), 2);
        for (int i = 2; i < 8; i++) {
            due("4: contest number " + i, Texts.tell(x, "tie " + i + ";"), i);
        }
        due("4: the ninth", Texts.tell(x, "tie 9;"), -3);
        due("4: the ninth does nothing", x.count(2), 20);
        due("4: n is looked at first", x.contest(21), -2);
        due("4: a fault in the ninth", Texts.tell(x, "#"), -3);
        for (int i = 2; i < 8; i++) {
            due("4: gets of contest " + i, x.gets(i, 0, 1, 1), i);
        }
        due("4: gets of contest 8", x.gets(8, 0, 1, 1), -10_000);
    }

    private static void faultIs(String text, int place) {
        HoldOuts x = new HoldOuts();
        due("5: contest of " + text, Texts.tell(x, text), place < 0 ? 0 : -1);
        due("5: fault of " + text, x.fault(), place);
    }

    private static void fault() {
        String[] good = {"", " ", "\n \n", "win 3;", "win3;", " tie 3 ; ", "win\n3\n;", "win 12345;", "lose 00001;",
            "tie (worth+mine)*other/purse-who+day;", "win 1 if 1<2;", "win 1if1<2or 1>2and 1=2;",
            "win 1 if not not 1<2 and [1<2 or [1=1]];", "win 1 if (1)+(2)<((3));", "tie 1;lose 2;tie 3;"};
        for (String text : good) {
            faultIs(text, -1);
        }
        faultIs("win", 3);
        faultIs("win  ", 5);
        faultIs("win 3", 5);
        faultIs("win 3\n", 6);
        faultIs("win 3+", 6);
        faultIs("win 3 if", 8);
        faultIs("win 3 if 1<", 11);
        faultIs("win 3 if [1<2", 13);
        faultIs("win (3", 6);
        faultIs("wins 3;", 0);
        faultIs("winz 3;", 0);
        faultIs("awin 3;", 0);
        faultIs("bin 3;", 0);
        faultIs("win nine;", 4);
        faultIs("win da;", 4);
        faultIs("Win 3;", 0);
        faultIs("3;", 0);
        faultIs(";", 0);
        faultIs("if 1<2;", 0);
        faultIs("win ;", 4);
        faultIs("win -3;", 4);
        faultIs("win not 3;", 4);
        faultIs("win [3];", 4);
        faultIs("win tie 3;", 4);
        faultIs("win price;", 4);
        faultIs("win worthmine;", 4);
        faultIs("win worth mine;", 10);
        faultIs("win 3 5;", 6);
        faultIs("win 3worth;", 5);
        faultIs("win 123456;", 4);
        faultIs("win 000001;", 4);
        faultIs("win 1+123456", 6);
        faultIs("win 3);", 5);
        faultIs("win (3;", 6);
        faultIs("win 3<4;", 5);
        faultIs("win 3 or 1<2;", 6);
        faultIs("win 3 if 4;", 10);
        faultIs("win 3 if 1<2<3;", 12);
        faultIs("win 3 if 1<=2;", 11);
        faultIs("win 3 if (1<2);", 11);
        faultIs("win 3 if [1+2]<3;", 13);
        faultIs("win 3 if 1<2 or;", 15);
        faultIs("win 3 if 1<2 not 1<2;", 13);
        faultIs("win 3 if 1<2];", 12);
        faultIs("win 3 if [1<2);", 13);
        faultIs("win 3 if and 1<2;", 9);
        faultIs("win 3 if 1<2 if 1<2;", 13);
        faultIs("win 3;#", 6);
        faultIs("win 3;\t", 6);
        faultIs("win 3;\u0000", 6);
        faultIs("win \u00e9;", 4);
        faultIs("win 3.5;", 5);
        HoldOuts x = new HoldOuts();
        Texts.tell(x, "win win;");
        due("5: fault()", x.fault(), 4);
        x.contest(-1);
        due("5: fault() behind -2", x.fault(), 4);
        x.contest(0);
        due("5: fault() behind a contest", x.fault(), -1);
        Texts.tell(x, "win;");
        for (int i = 1; i < 8; i++) {
            x.contest(0);
        }
        Texts.tell(x, "lose lose;");
        due("5: fault() behind -3", x.fault(), -1);
    }

    private static void faultOfNesting() {
        faultIs("win " + "(".repeat(9) + "1" + ")".repeat(9) + ";", -1);
        faultIs("win " + "(".repeat(10) + "1" + ")".repeat(10) + ";", 13);
        faultIs("win " + "(".repeat(10), 13);
        faultIs("win " + "(".repeat(9), 13);
        faultIs("win 1 if " + "not ".repeat(9) + "1<2;", -1);
        faultIs("win 1 if " + "not ".repeat(10) + "1<2;", 45);
        faultIs("win 1 if " + "not ".repeat(9) + "(1)<2;", 45);
        faultIs("win 1 if " + "not ".repeat(9) + "1<(2);", 47);
        faultIs("win 1 if " + "not ".repeat(9) + "[1<2];", 45);
        faultIs("win 1 if " + "[".repeat(9) + "1<2" + "]".repeat(9) + ";", -1);
        faultIs("win 1 if " + "[".repeat(10) + "1<2" + "]".repeat(10) + ";", 18);
        faultIs("win 1 if " + "[not ".repeat(4) + "((1))<2" + "]".repeat(4) + ";", 30);
        faultIs("win 1 if " + "[not ".repeat(4) + "(1)<(2)" + "]".repeat(4) + ";", -1);
        // What is closed again doesn't count.
        faultIs("win 1 if " + "not ".repeat(9) + "1<2 and not 1<2 or [(1)<2];", -1);
        faultIs("win " + "(1)+".repeat(20) + "1;", -1);
        faultIs("win 1 if " + "[1<2]and ".repeat(20) + "1<2;", -1);
        faultIs("win " + "(".repeat(9) + "1" + ")".repeat(9) + "if " + "[".repeat(9) + "1<2" + "]".repeat(9) + ";", -1);
    }

    private static void faultOfMany() {
        HoldOuts x = new HoldOuts();
        due("5: twenty statements", Texts.tell(x, "win 1;".repeat(20)), 0);
        due("5: how many", x.count(1), 20);
        faultIs("win 1;".repeat(21), 120);
        faultIs("win 1;".repeat(20) + "  ", -1);
        faultIs("win 1;".repeat(20) + "  lose;", 122);
        faultIs("win 1;".repeat(20) + "  ;", 122);
        String longest = "win 1" + "+1".repeat(247) + ";";
        due("5: length", longest.length(), 500);
        HoldOuts y = new HoldOuts();
        due("5: the longest text", Texts.tell(y, longest), 0);
        due("5: what it tells", y.gets(0, 0, 1, 0), 248);
    }

    private static void valueIs(String ex, int want) {
        HoldOuts x = Texts.with("win " + ex + ";");
        x.player(1, 12, 5);
        due("6: " + ex, x.gets(0, 1, 7, 3), want);
    }

    private static void gets() {
        valueIs("worth", 12);
        valueIs("mine", 7);
        valueIs("other", 3);
        valueIs("purse", 5);
        valueIs("who", 1);
        valueIs("day", 0);
        valueIs("1+2*3", 7);
        valueIs("(1+2)*3", 9);
        valueIs("9-3-2", 4);
        valueIs("7/2*2", 6);
        valueIs("(0-7)/2", -3);
        valueIs("7/(0-2)", -3);
        valueIs("5/0", 0);
        valueIs("5/(3-3)+1", 1);
        valueIs("9999", 9999);
        valueIs("10000", 9999);
        valueIs("0-9999", -9999);
        valueIs("0-99999*99999", -9999);
        // Held to 10^9 before the division, else it were 9,999.
        valueIs("99999*99999/99999/10", 1000);
        valueIs("(0-99999*99999)/99999/10", -1000);
        valueIs("(99999*10000+99999+99999)/10000/100", 1000);
        valueIs("(0-99999*10000-99999)/10000/100", -1000);
        HoldOuts x = two(8, 2, 6, 1, CLASSIC);
        due("6: win", x.gets(0, 0, 999, 998), -991);
        due("6: lose", x.gets(0, 0, 0, 999), 0);
        due("6: tie", x.gets(0, 1, 5, 5), -2);
        due("6: of PLAYER 2", x.gets(0, 2, 5, 5), -5);
        int[][] none = {{-1, 0, 0, 0}, {1, 0, 0, 0}, {0, -1, 0, 0}, {0, 3, 0, 0}, {0, 0, -1, 0}, {0, 0, 1000, 0},
            {0, 0, 0, -1}, {0, 0, 0, 1000}, {Integer.MAX_VALUE, 0, 0, 0}, {Integer.MIN_VALUE, 0, 0, 0}};
        for (int[] n : none) {
            due("6: gets(" + n[0] + ", " + n[1] + ", " + n[2] + ", " + n[3] + ")",
                x.gets(n[0], n[1], n[2], n[3]), -10_000);
        }
    }

    private static void conditionIs(String any, boolean want) {
        HoldOuts x = Texts.with("win 1 if " + any + ";win 2;");
        due("6: if " + any, x.gets(0, 0, 7, 3), want ? 1 : 2);
    }

    private static void getsConditions() {
        conditionIs("mine>other", true);
        conditionIs("mine<other", false);
        conditionIs("mine=other", false);
        conditionIs("mine=other+4", true);
        conditionIs("not mine>other", false);
        conditionIs("1=1 or 1=1 and 1=2", true);
        conditionIs("[1=1 or 1=1] and 1=2", false);
        conditionIs("not 1=2 and 1=2", false);
        conditionIs("not [1=2 and 1=2]", true);
        conditionIs("not not 1=1", true);
        conditionIs("1=2 and 1=1 or 1=1", true);
        HoldOuts x = Texts.with("lose 4;win 1 if mine>5;tie 6;win 2 if mine>3;win 3;win 5;", "win 2 if mine=9;");
        due("6: the first that holds", x.gets(0, 0, 6, 1), 1);
        due("6: the second that holds", x.gets(0, 0, 5, 1), 2);
        due("6: the one without if", x.gets(0, 0, 3, 1), 3);
        due("6: lose", x.gets(0, 0, 0, 1), 4);
        due("6: tie", x.gets(0, 0, 1, 1), 6);
        due("6: none holds", x.gets(1, 0, 8, 1), 0);
        due("6: none such", x.gets(1, 0, 0, 1), 0);
    }

    private static void rests() {
        due("7: rests of pennies", two(1, 1, 1, 1, PENNIES).rests(0), 1);
        due("7: rests of pennies with four SUMS", two(1, 3, 1, 3, PENNIES).rests(0), 0);
        due("7: rests of pennies with 0's PURSE 0", two(1, 0, 1, 1, PENNIES).rests(0), 1);
        due("7: rests of thirds", two(1, 2, 1, 2, THIRDS).rests(0), 1);
        due("7: rests where all is one", two(1, 7, 1, 7, "").rests(0), 64);
        due("7: rests where all is one, PURSES 1 and 2", two(1, 1, 1, 2, "").rests(0), 6);
        HoldOuts x = two(1, 1, 1, 1, PENNIES);
        due("7: rests(-1)", x.rests(-1), -1);
        // Thirds of the SUMS 5 to 7, all lesser ones being worse: the last couple of sets that there is.
        HoldOuts last = two(5, 7, 6, 7, "lose 0-99 if mine<5;tie 0-99 if mine<5;win 0-99 if mine<5;" + THIRDS);
        due("7: rests of the last thirds", last.rests(0), 1);
        due("8: the last set", last.rest(0, 0, 1), 224);
        due("8: the last set", last.rest(0, 0, 2), 224);
        due("8: 0's chance", last.rest(0, 0, 17), 1);
        due("8: 1's chance", last.rest(0, 0, 25), 1);
        due("8: no chance", last.rest(0, 0, 14), 0);
        due("10: lost", last.lost(0, 0), 12_000_000);
        due("7: rests(1)", x.rests(1), -1);
    }

    /** Both want the same SUM, the more the better: RESTS of one, of two and of three SUMS. */
    private static void restsInOrder() {
        HoldOuts x = two(0, 2, 0, 2, "tie mine+1;");
        int[][] sets = {{1, 1}, {2, 2}, {4, 4}, {3, 3}, {5, 5}, {6, 6}, {7, 7}};
        due("7: rests of the same SUM", x.rests(0), sets.length);
        for (int r = 0; r < sets.length; r++) {
            due("8: rest(0, " + r + ", 0)", x.rest(0, r, 0), Integer.bitCount(sets[r][0]));
            due("8: rest(0, " + r + ", 1)", x.rest(0, r, 1), sets[r][0]);
            due("8: rest(0, " + r + ", 2)", x.rest(0, r, 2), sets[r][1]);
        }
        // Chances by 1, 1/2 and 1/3: 6, 3 and 2 of 11.
        long[] chances = {6, 3, 2, 0, 0, 0, 0, 0};
        due("8: by what", x.rest(0, 6, 3), 11);
        due("8: by what", x.rest(0, 6, 4), 11);
        for (int sum = 0; sum < 8; sum++) {
            due("8: 0's chance of " + sum, x.rest(0, 6, 10 + sum), chances[sum]);
            due("8: 1's chance of " + sum, x.rest(0, 6, 20 + sum), chances[sum]);
        }
        due("9: upper", x.mean(0, 6, 0, false), 6);
        due("9: lower", x.mean(0, 6, 1, true), 11);
        // 6 of 11 for SUM 1 is 3 and 4 of 11 for SUM 2: 636,363 each.
        due("10: lost", x.lost(0, 6), 2 * 636_363);
    }

    private static void restAndMean() {
        HoldOuts x = two(5, 1, 6, 1, PENNIES);
        long[] wanted = {2, 3, 3, 2, 2};
        for (int what = 0; what < wanted.length; what++) {
            due("8: rest(0, 0, " + what + ")", x.rest(0, 0, what), wanted[what]);
        }
        due("8: chance", x.rest(0, 0, 10), 1);
        due("8: chance", x.rest(0, 0, 21), 1);
        due("8: chance of none", x.rest(0, 0, 17), 0);
        due("8: chance of none", x.rest(0, 0, 22), 0);
        for (int what : new int[] {-1, 5, 9, 18, 19, 28, 30, -10, -11, 100, Integer.MIN_VALUE, Integer.MAX_VALUE}) {
            due("8: rest(0, 0, " + what + ")", x.rest(0, 0, what), -1);
        }
        due("8: rest(0, 1, 0)", x.rest(0, 1, 0), -1);
        due("8: rest(0, -1, 0)", x.rest(0, -1, 0), -1);
        due("8: rest(1, 0, 0)", x.rest(1, 0, 0), -1);
        due("8: rest(-1, 0, 0)", x.rest(-1, 0, 0), -1);
        for (int who = 0; who < 2; who++) {
            due("9: upper", x.mean(0, 0, who, false), 1);
            due("9: lower", x.mean(0, 0, who, true), 2);
        }
        for (boolean lower : new boolean[] {false, true}) {
            due("9: of PLAYER 2", x.mean(0, 0, 2, lower), 0);
            due("9: of PLAYER -1", x.mean(0, 0, -1, lower), 0);
            due("9: of no REST", x.mean(0, 1, 0, lower), 0);
            due("9: of no CONTEST", x.mean(1, 0, 0, lower), 0);
        }
        HoldOuts below = two(5, 1, 6, 1, "tie 0-3*who;win 3*who-3;lose 3*who-3;");
        due("9: upper below 0", below.mean(0, 0, 0, false), -3);
        due("9: lower", below.mean(0, 0, 0, true), 2);
        chancesByMuch();
    }

    /** Thirds with GETS near their bounds: what makes all SUMS get the same is told by hundreds of millions. */
    private static void chancesByMuch() {
        HoldOuts x = two(5, 2, 6, 2, "tie mine*7;win 9999-mine*13 if mine-other=1;win 0-9999+mine;"
            + "lose 0-9998+other*3 if other-mine=1;lose 9997-other;");
        due("7: by much", x.rests(0), 1);
        for (int who = 0; who < 2; who++) {
            long by = x.rest(0, 0, 4 - who);
            due("8: by more than 100,000,000", by > 100_000_000, true);
            long all = 0;
            for (int other = 0; other < 3; other++) {
                all += x.rest(0, 0, 20 - 10 * who + other);
            }
            due("8: all chances", all, by);
            for (int mine = 0; mine < 3; mine++) {
                long gets = 0;
                for (int other = 0; other < 3; other++) {
                    gets += x.rest(0, 0, 20 - 10 * who + other) * x.gets(0, who, mine, other);
                }
                due("9: the mean of SUM " + mine, gets * x.mean(0, 0, who, true), x.mean(0, 0, who, false) * by);
            }
        }
    }

    private static void lostAndWrong() {
        HoldOuts halves = two(5, 1, 6, 1, PENNIES);
        due("10: lost of pennies", halves.lost(0, 0), 1_000_000);
        due("11: wrong of pennies", halves.wrong(0, 0), 500_000);
        HoldOuts alike = two(5, 1, 5, 1, PENNIES);
        due("11: alike", alike.wrong(0, 0), 0);
        due("11: 1 of less", two(6, 1, 5, 1, PENNIES).wrong(0, 0), 500_000);
        HoldOuts thirds = two(5, 2, 6, 2, THIRDS);
        due("10: lost of thirds", thirds.lost(0, 0), 2_000_000);
        // 333,333 thrice: 333,332,666,667 and half of as much, cut.
        due("11: wrong of thirds", thirds.wrong(0, 0), 499_999);
        HoldOuts first = two(2, 1, 9, 1, STEP);
        due("7: who is worth it has it", first.rests(0), 2);
        due("8: 0's set", first.rest(0, 0, 1), 1);
        due("8: 1's set", first.rest(0, 0, 2), 2);
        due("10: lost", first.lost(0, 0), 1_000_000);
        due("11: the one of more has it", first.wrong(0, 0), 0);
        due("11: both put 1", first.wrong(0, 1), 500_000);
        HoldOuts other = two(9, 0, 2, 1, "tie 0;win 1;");
        due("11: the one of less has it", other.wrong(0, 0), 1_000_000);
        due("10: none such", first.lost(0, 2), -1);
        due("10: none such", first.lost(0, -1), -1);
        due("10: none such", first.lost(1, 0), -1);
        due("11: none such", first.wrong(0, 2), -1);
        due("11: none such", first.wrong(0, -1), -1);
        due("11: none such", first.wrong(-1, 0), -1);
    }

    private static void least() {
        // The first has no REST, the second loses 2 and 3, the third and fourth nothing; in the second
        // 1, of more WORTH, has it surely.
        HoldOuts x = two(5, 3, 6, 3, PENNIES, "tie 0;win mine+other;lose mine+other;", "tie 9-mine;", "tie 8-mine;");
        due("7: none", x.rests(0), 0);
        due("10: lost", x.lost(1, 0), 5_000_000);
        due("12: least(0)", x.least(0), 2);
        due("12: least(1)", x.least(1), 1);
        due("12: least(2)", x.least(2), -1);
        due("12: least(-1)", x.least(-1), -1);
        HoldOuts none = two(5, 3, 6, 3, PENNIES);
        due("12: none has a REST", none.least(0), -1);
        due("12: none has a REST", none.least(1), -1);
        HoldOuts alike = two(5, 1, 5, 1, "tie mine;", "tie 9-mine;");
        due("12: all the same", alike.least(1), 0);
        due("12: the first REST is that of 0 and 0", alike.least(0), 0);
    }

    private static void offer() {
        HoldOuts x = two(5, 1, 6, 1, PENNIES);
        due("13: one half", x.offer(0, 0, 0), 1);
        due("13: one half", x.offer(0, 0, 1), 1);
        HoldOuts below = two(5, 1, 6, 1, "tie 0-3*who;win 3*who-3;lose 3*who-3;", "tie 0-who;win who-1;lose who-1;");
        due("13: -3/2", below.offer(0, 0, 0), -1);
        due("13: -1/2", below.offer(1, 0, 1), 0);
        HoldOuts whole = two(6, 0, 4, 0, "tie 0-worth;");
        due("13: -6", whole.offer(0, 0, 0), -6);
        due("13: -4", whole.offer(0, 0, 1), -4);
        int[][] none = {{-1, 0, 0}, {1, 0, 0}, {0, -1, 0}, {0, 1, 0}, {0, 0, -1}, {0, 0, 2}};
        for (int[] n : none) {
            due("13: offer(" + n[0] + ", " + n[1] + ", " + n[2] + ")", x.offer(n[0], n[1], n[2]), -10_000);
        }
    }

    private static void edge() {
        HoldOuts x = two(0, 1, 0, 1, STEP);
        due("14: a third REST", x.edge(0, 0), 3);
        due("14: for 1 as well", x.edge(0, 1), 3);
        x.player(0, 3, 1);
        due("14: 0 and 0 is none any more", x.edge(0, 0), 4);
        x.player(0, 4, 1);
        due("14: no more", x.edge(0, 0), -1);
        due("14: it changes nothing", x.count(6), 4);
        HoldOuts other = two(0, 1, 0, 0, "win worth*2;tie 5;");
        due("14: as many with other sets", other.edge(0, 0), 3);
        due("14: nothing for 1", other.edge(0, 1), -1);
        HoldOuts far = two(9, 1, 0, 0, "win worth;tie 49;");
        due("14: 40 above", far.edge(0, 0), 49);
        far.player(0, 8, 1);
        due("14: 41 above", far.edge(0, 0), -1);
        HoldOuts top = two(990, 1, 0, 0, "win worth;tie 999;", "win worth;tie 1000;");
        due("14: 999", top.edge(0, 0), 999);
        due("14: no WORTH 1000", top.edge(1, 0), -1);
        top.player(0, 999, 1);
        due("14: none above 999", top.edge(0, 0), -1);
        due("14: none such", top.edge(2, 0), -1);
        due("14: none such", top.edge(-1, 0), -1);
        due("14: none such", top.edge(0, 2), -1);
        due("14: none such", top.edge(0, -1), -1);
    }

    private static void sureLotAnswerWay() {
        HoldOuts x = two(6, 7, 4, 7, CLASSIC);
        int[][] refused = {{-1, 0}, {2, 0}, {0, -1}, {0, 8}};
        for (int[] r : refused) {
            due("15: sure(" + r[0] + ", " + r[1] + ")", x.sure(r[0], r[1]), false);
            due("16: lot(" + r[0] + ", " + r[1] + ", 1)", x.lot(r[0], r[1], 1), false);
        }
        due("16: lot(0, 0, -1)", x.lot(0, 0, -1), false);
        due("16: lot(0, 0, 1001)", x.lot(0, 0, 1001), false);
        due("17: answer(2)", x.answer(2), false);
        due("17: answer(-1)", x.answer(-1), false);
        due("18: nothing was told", x.way(0), 0);
        due("15: sure(0, 7)", x.sure(0, 7), true);
        due("18: SURE", x.way(0), 1);
        due("18: 1 has none", x.way(1), 0);
        due("16: lot(1, 0, 1000)", x.lot(1, 0, 1000), true);
        due("18: LOTS", x.way(1), 2);
        due("17: answer(0)", x.answer(0), true);
        due("18: ANSWER", x.way(0), 3);
        due("18: way(2)", x.way(2), -1);
        due("18: way(-1)", x.way(-1), -1);
        due("15: sure(0, 0)", x.sure(0, 0), true);
        due("18: SURE again", x.way(0), 1);
        due("15: refused", x.sure(0, 9), false);
        due("19: 0 stays", x.part(0, 0, 0), 1000);
        // LOTS go on from LOTS, but behind another WAY they begin anew.
        x.lot(1, 0, 400);
        x.lot(1, 5, 600);
        due("16: parts", x.part(0, 1, 0), 400);
        due("16: parts", x.part(0, 1, 5), 600);
        x.answer(1);
        x.lot(1, 5, 600);
        due("16: 600 are not whole", x.part(0, 1, 5), -1);
        x.lot(1, 6, 400);
        due("16: 600 and 400 are", x.part(0, 1, 6), 400);
        due("16: none for 0", x.part(0, 1, 0), 0);
        x.sure(1, 3);
        x.lot(1, 1, 1000);
        due("16: none for what was SURE", x.part(0, 1, 3), 0);
    }

    private static void part() {
        HoldOuts x = two(6, 2, 4, 2, CLASSIC);
        due("19: no WAYS", x.part(0, 0, 0), -1);
        x.sure(0, 2);
        due("19: one WAY", x.part(0, 0, 2), -1);
        x.sure(1, 3);
        due("19: above the PURSE", x.part(0, 0, 2), -1);
        x.player(1, 4, 3);
        due("19: no more above the PURSE", x.part(0, 0, 2), 1000);
        due("19: another SUM", x.part(0, 0, 7), 0);
        due("19: SUM 8", x.part(0, 0, 8), -1);
        due("19: SUM -1", x.part(0, 0, -1), -1);
        due("19: PLAYER 2", x.part(0, 2, 0), -1);
        due("19: PLAYER -1", x.part(0, -1, 0), -1);
        due("19: no CONTEST", x.part(1, 0, 2), -1);
        due("19: no CONTEST", x.part(-1, 0, 2), -1);
        x.lot(1, 3, 500);
        due("19: 500 parts", x.part(0, 1, 3), -1);
        x.lot(1, 0, 501);
        due("19: 1001 parts", x.part(0, 1, 3), -1);
        x.lot(1, 0, 500);
        due("19: 1000 parts", x.part(0, 1, 3), 500);
        x.player(1, 4, 2);
        due("19: lots above the PURSE", x.part(0, 1, 0), -1);
        x.lot(1, 3, 0);
        x.lot(1, 2, 500);
        due("19: no parts above the PURSE", x.part(0, 1, 2), 500);
        // Against 0 and 2, each by half: SUM 0 gets 2 and 0, 1 gets 5 and -1, 2 gets 4 and 1: 5, 4.
        x.answer(0);
        due("19: ANSWER", x.part(0, 0, 2), 1000);
        due("19: ANSWER", x.part(0, 0, 1), 0);
        x.answer(1);
        due("19: ANSWER by both", x.part(0, 0, 2), -1);
    }

    private static void worthBestJudge() {
        HoldOuts x = two(6, 2, 4, 2, CLASSIC, "");
        due("20: no WAYS", x.worth(0, 0), NO_WORTH);
        due("21: no WAYS", x.best(0, 0), -1);
        due("22: no WAYS", x.judge(0), -2);
        x.sure(0, 1);
        x.lot(1, 0, 250);
        x.lot(1, 1, 750);
        // 0 wins 5 by 250 and ties for 2 by 750; 1 loses 0 by 250, ties for 1 by 750.
        due("20: worth(0, 0)", x.worth(0, 0), 1000 * (5 * 250 + 2 * 750));
        due("20: worth(0, 1)", x.worth(0, 1), 1000 * 750);
        due("20: worth(1, 1)", x.worth(1, 1), 0);
        // SUM 2 gets 0 always 4; 1 gets 2 by SUM 2.
        due("21: best(0, 0)", x.best(0, 0), 2);
        due("21: best(0, 1)", x.best(0, 1), 2);
        due("21: the least of all", x.best(1, 1), 0);
        due("22: 0 first", x.judge(0), 2);
        due("22: nobody", x.judge(1), -1);
        x.answer(0);
        due("22: 1 then", x.judge(0), 10);
        due("20: 0 by SUM 2", x.worth(0, 0), 4 * 1_000_000);
        x.answer(1);
        due("20: ANSWER by both", x.worth(0, 0), NO_WORTH);
        due("21: ANSWER by both", x.best(0, 0), -1);
        due("22: ANSWER by both", x.judge(0), -2);
        x.sure(1, 0);
        for (int c : new int[] {-1, 2}) {
            due("20: no CONTEST", x.worth(c, 0), NO_WORTH);
            due("21: no CONTEST", x.best(c, 0), -1);
            due("22: no CONTEST", x.judge(c), -2);
        }
        for (int who : new int[] {-1, 2}) {
            due("20: no PLAYER", x.worth(0, who), NO_WORTH);
            due("21: no PLAYER", x.best(0, who), -1);
        }
        HoldOuts most = two(6, 2, 4, 2, "tie 9999;", "tie 0-9999;");
        most.sure(0, 1);
        most.sure(1, 1);
        due("20: most", most.worth(0, 1), 9_999_000_000L);
        due("20: least", most.worth(1, 0), -9_999_000_000L);
        due("22: another is better", most.judge(1), 0);
    }

    private static void sort() {
        HoldOuts x = new HoldOuts();
        int[][] refused = {{-1, 1, 1}, {2, 1, 1}, {0, -1, 1}, {0, 1000, 1}, {0, 1, -1}, {0, 1, 1001}};
        for (int[] r : refused) {
            due("23: sort(" + r[0] + ", " + r[1] + ", " + r[2] + ")", x.sort(r[0], r[1], r[2]), -1);
        }
        due("23: nothing was told", x.count(3), 0);
        due("23: sort(0, 0, 0)", x.sort(0, 0, 0), 0);
        due("23: sort(0, 999, 1000)", x.sort(0, 999, 1000), 1);
        due("23: sort(0, 5, 5)", x.sort(0, 5, 5), 2);
        due("23: the fourth", x.sort(0, 5, 5), -1);
        due("23: 1's first", x.sort(1, 5, 5), 0);
        due("23: 0 has", x.count(3), 3);
        due("23: 1 has", x.count(4), 1);
    }

    private static void sortedRow(HoldOuts x, int k, int... wanted) {
        for (int what = 0; what < 4; what++) {
            due("24: sorted(0, " + k + ", " + what + ")", x.sorted(0, k, what), wanted[what]);
        }
    }

    private static void sorted() {
        HoldOuts x = two(0, 1, 0, 1, STEP);
        due("24: no SORTS", x.sorted(0, 0, 0), -1);
        x.sort(0, 2, 500);
        x.sort(0, 5, 499);
        x.sort(1, 2, 1000);
        due("24: 999 parts", x.sorted(0, 0, 0), -1);
        x.sort(0, 9, 1);
        // Against 0, worth 2 puts 0, worth 5 and 9 put 1; against 1 all is 0, and 1 wants no 0 there.
        sortedRow(x, 0, 4 + 16, 0, 1, 1);
        sortedRow(x, 1, 1 + 4 + 16, 1, 1, 1);
        sortedRow(x, 2, -1, -1, -1, -1);
        due("24: k -1", x.sorted(0, -1, 0), -1);
        due("24: what 4", x.sorted(0, 0, 4), -1);
        due("24: what -1", x.sorted(0, 0, -1), -1);
        due("24: no CONTEST", x.sorted(1, 0, 0), -1);
        due("24: no CONTEST", x.sorted(-1, 0, 0), -1);
        // With worth 3, 1 doesn't mind: against 1 each row of 0's is at rest.
        x.forget();
        x.sort(0, 2, 500);
        x.sort(0, 5, 500);
        x.sort(1, 3, 1000);
        sortedRow(x, 0, 0, 1, 1, 1);
        sortedRow(x, 1, 1, 1, 0, 1);
        sortedRow(x, 2, 4, 0, 1, 1);
        sortedRow(x, 3, 4, 1, 1, 1);
        sortedRow(x, 4, 5, 1, 1, 1);
        sortedRow(x, 5, -1, -1, -1, -1);
        sortedEdges();
    }

    private static void sortedEdges() {
        // A SORT of no parts is to get most, too; those alike in WORTH rise anyhow.
        HoldOuts x = two(0, 1, 0, 0, STEP);
        x.sort(0, 2, 1000);
        x.sort(0, 5, 0);
        x.sort(1, 2, 1000);
        sortedRow(x, 0, 4, 0, 1, 1);
        sortedRow(x, 1, -1, -1, -1, -1);
        HoldOuts poor = two(0, 0, 0, 0, STEP);
        poor.sort(0, 5, 1000);
        poor.sort(1, 5, 1000);
        sortedRow(poor, 0, 0, 0, 1, 1);
        sortedRow(poor, 1, -1, -1, -1, -1);
        HoldOuts falls = two(0, 1, 0, 0, "win 5-worth;");
        falls.sort(1, 0, 600);
        falls.sort(1, 0, 400);
        falls.sort(0, 9, 300);
        falls.sort(0, 1, 700);
        sortedRow(falls, 0, 4, 0, 0, 1);
        // SUMS above 3 are none, whatever the PURSE; worth, who and purse are asked of the SORT's PLAYER.
        HoldOuts few = two(50, 7, 60, 7, "win mine+worth-worth;lose mine;tie mine;");
        few.sort(0, 1, 1000);
        few.sort(1, 1, 1000);
        sortedRow(few, 0, 3, 3, 1, 1);
        sortedRow(few, 1, -1, -1, -1, -1);
        HoldOuts asked = two(50, 3, 60, 1, "win mine if who=0 and purse=3 and worth=7;lose 1 if who=1 and purse=1;");
        asked.sort(0, 7, 1000);
        asked.sort(1, 8, 1000);
        sortedRow(asked, 0, 3, 0, 1, 1);
        // 1's first SORT puts 0, the second 1; against 1, SUM 1 gets 0 one less, against 0 two more.
        HoldOuts parts = two(0, 1, 0, 1, "win 2 if who=0;tie 0-1 if who=0 and mine=1;win worth*2-1;"
            + "lose 1-worth if who=1;tie worth*mine;");
        sortTwo(parts, 333, 667);
        due("24: 666 are less than 667", parts.sorted(0, 0, 0), 0);
        parts.forget();
        sortTwo(parts, 334, 666);
        due("24: 668 are more than 666", parts.sorted(0, 0, 0), 1);
    }

    private static void sortTwo(HoldOuts x, int low, int high) {
        x.sort(0, 0, 1000);
        x.sort(1, 0, low);
        x.sort(1, 1, high);
    }

    private static HoldOuts trio(int[] worths, int[] purses, String text) {
        HoldOuts x = Texts.with(text);
        for (int who = 0; who < 3; who++) {
            x.player(who, worths[who], purses[who]);
        }
        return x;
    }

    private static void three() {
        HoldOuts none = trio(new int[] {0, 0, 0}, new int[] {0, 0, 0}, CLASSIC);
        due("25: all 0", none.three(0, 0), 0);
        due("25: no other", none.three(0, 1), -1);
        HoldOuts all = trio(new int[] {0, 0, 0}, new int[] {1, 7, 2}, "");
        // Each row is at rest: 2 by 4 by 3, in the order of their codes.
        int k = 0;
        for (int code = 0; code < 64; code++) {
            if (code / 16 <= 1 && code % 4 <= 2) {
                due("25: three(0, " + k + ")", all.three(0, k), code);
                k++;
            }
        }
        due("25: no more", all.three(0, k), -1);
        due("25: k -1", all.three(0, -1), -1);
        due("25: no CONTEST", all.three(1, 0), -1);
        due("25: no CONTEST", all.three(-1, 0), -1);
        // Each wants to be above the greater of both others': 0 by 2 that 1 can't beat, or by 3.
        HoldOuts above = trio(new int[] {9, 9, 9}, new int[] {3, 2, 1}, "win 9;");
        int[] rows = {32, 33, 36, 37, 48, 49, 52, 53, 56, 57, -1};
        for (int row = 0; row < rows.length; row++) {
            due("25: 0 wins", above.three(0, row), rows[row]);
        }
        due("25: pennies", trio(new int[] {1, 1, 1}, new int[] {1, 1, 0}, PENNIES).three(0, 0), -1);
    }

    private static void idle() {
        due("26: all", trio(new int[] {0, 0, 0}, new int[] {0, 0, 0}, CLASSIC).idle(0), 7);
        due("26: 1 and 2", trio(new int[] {0, 0, 0}, new int[] {1, 0, 0}, "").idle(0), 6);
        due("26: 0 and 2", trio(new int[] {0, 0, 0}, new int[] {0, 3, 0}, "").idle(0), 5);
        due("26: 0", trio(new int[] {0, 0, 0}, new int[] {0, 3, 3}, "").idle(0), 1);
        due("26: nobody", trio(new int[] {0, 0, 0}, new int[] {3, 3, 3}, "").idle(0), 0);
        HoldOuts x = trio(new int[] {1, 1, 1}, new int[] {1, 1, 0}, PENNIES);
        due("26: no row", x.idle(0), 0);
        due("26: no CONTEST", x.idle(1), -1);
        due("26: no CONTEST", x.idle(-1), -1);
    }

    private static void dayIs(HoldOuts x, int q0, int q1, int n, long... wanted) {
        for (int what = 0; what < wanted.length; what++) {
            due("27: days(0, " + q0 + ", " + q1 + ", " + n + ", " + what + ")",
                x.days(0, q0, q1, n, what), wanted[what]);
        }
    }

    private static void days() {
        HoldOuts x = two(6, 2, 4, 2, CLASSIC);
        dayIs(x, 500, 0, 2, 250_000_000L, -1_000_000_000L, 2_000_000_000L, 0, 750_000_000L, 0, 1_000_000_000L);
        dayIs(x, 0, 1000, 3, 0, 5_000_000_000L, -1_000_000_000L, 1_000_000_000L, 0, 0, 1_000_000_000L);
        dayIs(x, 1000, 1000, 400, 0, 2_000_000_000L, 1_000_000_000L, 0, 0, 1_000_000_000L, 1_000_000_000L);
        dayIs(x, 0, 0, 400, 1_000_000_000L, 0, 0, 0, 0, 0, 0);
        // Each of the three parts is cut on each day.
        HoldOuts none = two(6, 2, 4, 2, "");
        dayIs(none, 333, 777, 3, 3_290_731L, 0, 0, 606_811_264L, 86_947_254L, 302_950_751L, 1_160_992_694L);
        dayIs(none, 1, 1, 2, 996_005_998L, 0, 0, 1_996_002L, 1_996_002L, 1_998L, 5_989_004L);
        dayIs(none, 1, 999, 400, 1, 0, 0, 998_999_001L, 1_000L, 999_998L, 1_000_999_998L);
        // mine, other and day are the day; who wins is who stays, whatever the SUMS.
        HoldOuts all = two(6, 2, 4, 2, "win day;lose other;tie mine*10;");
        dayIs(all, 500, 500, 2, 62_500_000L, 4_500_000_000L, 4_500_000_000L);
        HoldOuts asked = two(6, 2, 4, 3, "win worth*100+purse*10+who;");
        dayIs(asked, 500, 500, 1, 250_000_000L, 620 * 250_000_000L, 431 * 250_000_000L);
        int[][] none5 = {{-1, 1, 1, 1, 0}, {1, 1, 1, 1, 0}, {0, -1, 1, 1, 0}, {0, 1001, 1, 1, 0}, {0, 1, -1, 1, 0},
            {0, 1, 1001, 1, 0}, {0, 1, 1, 0, 0}, {0, 1, 1, 401, 0}, {0, 1, 1, 1, -1}, {0, 1, 1, 1, 7}};
        for (int[] n : none5) {
            due("27: days(" + n[0] + ", " + n[1] + ", " + n[2] + ", " + n[3] + ", " + n[4] + ")",
                x.days(n[0], n[1], n[2], n[3], n[4]), -1);
        }
        due("6: no day but in DAYS", Texts.with("win day;").gets(0, 0, 2, 1), 0);
    }

    private static void leave() {
        HoldOuts x = two(6, 2, 4, 2, "lose 5;", "", "lose day;", "tie 3;win 1;", "win 1;tie 1;lose 1;");
        due("28: at once", x.leave(0, 0, 1), 1000);
        due("28: all the same", x.leave(1, 300, 9), 0);
        // q and twice what is left of q on the second day: most with three quarters.
        due("28: three quarters", x.leave(2, 0, 2), 750);
        due("28: together", x.leave(3, 1000, 1), 1000);
        due("28: the least that ends all", x.leave(4, 1000, 1), 0);
        due("28: the whole ends only with 1000", x.leave(4, 0, 1), 1000);
        int[][] none = {{-1, 0, 1}, {5, 0, 1}, {0, -1, 1}, {0, 1001, 1}, {0, 0, 0}, {0, 0, 401}};
        for (int[] n : none) {
            due("28: leave(" + n[0] + ", " + n[1] + ", " + n[2] + ")", x.leave(n[0], n[1], n[2]), -1);
        }
        due("28: 400 days", x.leave(0, 1000, 400), 0);
    }

    private static void learn() {
        HoldOuts x = two(6, 2, 4, 2, CLASSIC);
        // Both put 1 against 0, then 2 against 1, then 2 against 1 and 2.
        due("29: first round", x.learn(0, 1, 0, 1), 1);
        due("29: first round", x.learn(0, 1, 1, 1), 1);
        due("29: second round", x.learn(0, 2, 0, 2), 1);
        due("29: three rounds", x.learn(0, 3, 1, 2), 2);
        due("29: never", x.learn(0, 500, 0, 7), 0);
        due("29: a PURSE of 0", two(0, 1, 0, 0, "win 9;tie 0;").learn(0, 7, 0, 1), 7);
        HoldOuts pennies = two(1, 1, 1, 1, PENNIES);
        // 0 puts 0 and 1 puts 1; then 0 puts 1, as only 1 was put and the first round's 0 is gone; 1
        // puts 1 against 0.
        due("29: pennies, 0", pennies.learn(0, 2, 0, 1), 1);
        due("29: pennies, 1", pennies.learn(0, 2, 1, 1), 2);
        // Of one and one the least: third round 0 puts 1, 1 puts 0.
        due("29: pennies, third round", pennies.learn(0, 3, 1, 0), 1);
        due("29: pennies, third round", pennies.learn(0, 3, 0, 1), 2);
        int[][] none = {{-1, 1, 0, 0}, {1, 1, 0, 0}, {0, 0, 0, 0}, {0, 501, 0, 0}, {0, 1, -1, 0}, {0, 1, 2, 0},
            {0, 1, 0, -1}, {0, 1, 0, 8}};
        for (int[] n : none) {
            due("29: learn(" + n[0] + ", " + n[1] + ", " + n[2] + ", " + n[3] + ")",
                x.learn(n[0], n[1], n[2], n[3]), -1);
        }
    }

    private static void cycle() {
        HoldOuts x = two(6, 2, 4, 2, CLASSIC, "");
        // (0, 0), (1, 2), (2, 0), (1, 2).
        due("30: the third", x.cycle(0, 0, 0, 0), 3);
        due("30: as behind the first", x.cycle(0, 0, 0, 1), 1);
        // (1, 2), (2, 0), (1, 2).
        due("30: the second", x.cycle(0, 1, 2, 0), 2);
        due("30: as told", x.cycle(0, 1, 2, 1), 0);
        due("30: stays", x.cycle(1, 0, 0, 0), 1);
        due("30: stays as told", x.cycle(1, 0, 0, 1), 0);
        due("30: stays behind the first", x.cycle(1, 2, 1, 0), 2);
        due("30: stays behind the first", x.cycle(1, 2, 1, 1), 1);
        int[][] none = {{-1, 0, 0, 0}, {2, 0, 0, 0}, {0, -1, 0, 0}, {0, 3, 0, 0}, {0, 0, -1, 0}, {0, 0, 3, 0},
            {0, 0, 0, -1}, {0, 0, 0, 2}};
        for (int[] n : none) {
            due("30: cycle(" + n[0] + ", " + n[1] + ", " + n[2] + ", " + n[3] + ")",
                x.cycle(n[0], n[1], n[2], n[3]), -1);
        }
        // Each of 1's SUMS leads to the next: the couples come back as late as they can.
        HoldOuts round = two(0, 7, 0, 7, "win 1 if who=1 and mine=other+1;lose 1 if who=1 and mine=0 and other=7;"
            + "tie 1 if who=0;");
        due("30: eight", round.cycle(0, 0, 0, 0), 9);
        due("30: eight", round.cycle(0, 0, 0, 1), 1);
        due("30: eight from outside", round.cycle(0, 0, 2, 0), 9);
        due("30: eight from outside", round.cycle(0, 0, 2, 1), 1);
        due("30: eight from a couple of it", round.cycle(0, 3, 4, 0), 8);
        due("30: eight from a couple of it", round.cycle(0, 3, 4, 1), 0);
    }

    private static void runIs(HoldOuts x, int seed, int n, int... wanted) {
        for (int what = 0; what < wanted.length; what++) {
            due("31: run(0, " + seed + ", " + n + ", " + what + ")", x.run(0, seed, n, what), wanted[what]);
        }
    }

    private static void run() {
        HoldOuts x = two(6, 2, 4, 2, CLASSIC);
        due("31: no WAYS", x.run(0, 1, 1, 0), NO_RUN);
        for (int who = 0; who < 2; who++) {
            x.lot(who, 0, 500);
            x.lot(who, 1, 500);
        }
        // Seed 0 draws 807 and 424, 937 and 236, 125 and 891, 184 and 975, 264 and 139.
        runIs(x, 0, 3, 10, 3, 2, 0, 3);
        runIs(x, 0, 5, 13, 8, 2, 1, 4);
        // Seed 999,999,999 draws 190 and 71, 427 and 92, 152 and 354, 333 and 171, 461 and 759.
        runIs(x, 999_999_999, 5, 12, 11, 0, 4, 1);
        // 807 is not below 807.
        x.lot(0, 0, 807);
        x.lot(0, 1, 0);
        x.lot(0, 2, 193);
        runIs(x, 0, 1, 4, 0, 1, 0, 2);
        x.lot(0, 0, 808);
        x.lot(0, 2, 192);
        runIs(x, 0, 1, 3, 2, 0, 1, 0);
        x.sure(0, 2);
        x.answer(1);
        runIs(x, 5, 1000, 4000, 0, 1000, 0, 2000);
        int[][] none = {{-1, 1, 1, 0}, {1, 1, 1, 0}, {0, -1, 1, 0}, {0, 1_000_000_000, 1, 0}, {0, 1, 0, 0},
            {0, 1, 1001, 0}, {0, 1, 1, -1}, {0, 1, 1, 5}};
        for (int[] n : none) {
            due("31: run(" + n[0] + ", " + n[1] + ", " + n[2] + ", " + n[3] + ")",
                x.run(n[0], n[1], n[2], n[3]), NO_RUN);
        }
        x.answer(0);
        due("31: ANSWER by both", x.run(0, 1, 1, 0), NO_RUN);
    }

    private static void deal() {
        // One REST, 2 and 2, with means 1 and 0; SUM 1 gets 5 and 3 against 0.
        HoldOuts x = two(6, 2, 4, 2, CLASSIC);
        due("32: 0 pays nothing", x.deal(0, 0, 0), 0);
        due("32: 1 pays", x.deal(0, 0, 1), 1);
        HoldOuts halves = two(5, 1, 6, 1, PENNIES, "tie 0-3*who;win 3*who-3;lose 3*who-3;",
            "tie 1-who;win who+3*other;lose who;", "tie 2-2*who;win 2*who;lose 2*who;");
        due("32: 0 can't pay", halves.deal(0, 0, 0), -1);
        due("32: 1 can't pay", halves.deal(0, 0, 1), -1);
        due("32: -3 is less than -3/2", halves.deal(1, 0, 0), -1);
        due("32: 0 at least", halves.deal(1, 0, 1), 0);
        due("32: 2 less 1 is 1", halves.deal(3, 0, 1), 1);
        // Without SUM 1 the one puts 0: both get 7 by the tie.
        HoldOuts poor = two(5, 0, 6, 0, "tie 7;win 99;", "tie 0-2;win 99;");
        due("32: a PURSE of 0", poor.deal(0, 0, 0), -1);
        due("32: a PURSE of 0, nothing to pay", poor.deal(1, 0, 0), 0);
        HoldOuts one = two(5, 2, 6, 0, "tie 1;win 4 if mine=1;win 2;");
        due("32: by SUM 1", one.deal(0, 0, 0), 0);
        HoldOuts both = two(5, 1, 6, 0, "tie 7;win 14;", "tie 7;win 13;");
        due("32: the payer's PURSE", both.deal(0, 0, 0), 0);
        due("32: the payer's PURSE", both.deal(0, 0, 1), -1);
        int[][] none = {{-1, 0, 0}, {1, 0, 0}, {0, -1, 0}, {0, 1, 0}, {0, 0, -1}, {0, 0, 2}};
        for (int[] n : none) {
            due("32: deal(" + n[0] + ", " + n[1] + ", " + n[2] + ")", x.deal(n[0], n[1], n[2]), -1);
        }
    }

    private static void forget() {
        HoldOuts x = two(6, 2, 4, 2, CLASSIC);
        due("33: none", x.forget(), 0);
        x.sort(0, 6, 1000);
        x.sort(1, 4, 400);
        x.sort(1, 4, 600);
        due("24: there is one", x.sorted(0, 0, 0), 2);
        due("33: three", x.forget(), 3);
        due("33: none any more", x.forget(), 0);
        due("24: there is none", x.sorted(0, 0, 0), -1);
        due("23: numbers begin anew", x.sort(1, 4, 1000), 0);
        due("33: CONTESTS stay", x.count(0), 1);
    }

    private static void count() {
        HoldOuts x = Texts.with(CLASSIC, "win 1;tie 2;");
        x.feed(0, 0, 0, 0, 0);
        x.player(0, 11, 1);
        x.player(1, 22, 2);
        x.player(2, 33, 3);
        x.sort(0, 1, 1);
        x.sort(1, 1, 1);
        x.sort(1, 2, 2);
        long[] wanted = {2, 2, 20, 1, 2, 0, 11, 22, 33, 1, 2, 3, -1};
        for (int what = 0; what < wanted.length; what++) {
            due("34: count(" + what + ")", x.count(what), wanted[what]);
        }
        due("34: count(-1)", x.count(-1), -1);
        due("34: count of the least", x.count(Integer.MIN_VALUE), -1);
        x.answer(0);
        due("34: ANSWER by one", x.count(5), 0);
        x.answer(1);
        due("34: ANSWER by both", x.count(5), 1);
        x.sure(0, 1);
        due("34: ANSWER by one", x.count(5), 0);
        x.contest(2);
        due("34: statements of the last that stands", x.count(1), 2);
    }
}
