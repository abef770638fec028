/** The edges that promises 27 to 34 name: days, rounds, deals, and what is forgotten and counted. */
public final class RoundEdgesTest {
    private static final long MASS = 1_000_000_000L;
    private static final int NO_RUN = -1_000_000_000;
    // The more the better, whatever the other one does.
    private static final String MOST = "tie mine;win mine;lose mine;";

    public static void main(String[] args) throws ReflectiveOperationException {
        Edges.runAll(RoundEdgesTest.class, 27, 34);
    }

    private static void due(String call, long got, long want) {
        Edges.due(call, got, want);
    }

    private static void due(String call, boolean got, boolean want) {
        Edges.due(call, got, want);
    }

    private static HoldOuts two(int worth0, int purse0, int worth1, int purse1, String... texts) {
        return Edges.two(worth0, purse0, worth1, purse1, texts);
    }

    // ---- 27: days: "NONE: none such (not as told)."

    private static void daysAre(HoldOuts x, int q0, int q1, int n, long... wanted) {
        for (int what = 0; what < wanted.length; what++) {
            due("days(0, " + q0 + ", " + q1 + ", " + n + ", " + what + ")", x.days(0, q0, q1, n, what), wanted[what]);
        }
    }

    private static void promise27NoSuchContest() {
        HoldOuts x = Texts.with("");
        due("contest -1", x.days(-1, 1, 1, 1, 0), -1);
        due("contest 1", x.days(1, 1, 1, 1, 0), -1);
        for (int far : Edges.FAR) {
            due("contest " + far, x.days(far, 1, 1, 1, 0), -1);
        }
    }

    private static void promise27PartsTooSmall() {
        HoldOuts x = Texts.with("");
        due("q0 -1", x.days(0, -1, 1, 1, 0), -1);
        due("q1 -1", x.days(0, 1, -1, 1, 0), -1);
        due("both 0", x.days(0, 0, 0, 1, 0), MASS);
    }

    private static void promise27PartsTooLarge() {
        HoldOuts x = Texts.with("");
        due("q0 1001", x.days(0, 1_001, 1, 1, 0), -1);
        due("q1 1001", x.days(0, 1, 1_001, 1, 0), -1);
        due("q0 1000", x.days(0, 1_000, 1, 1, 0), 0);
        due("q1 1000", x.days(0, 1, 1_000, 1, 0), 0);
    }

    private static void promise27DaysTooFew() {
        HoldOuts x = Texts.with("");
        due("no days", x.days(0, 1, 1, 0, 0), -1);
        due("-1 days", x.days(0, 1, 1, -1, 0), -1);
        due("1 day", x.days(0, 1, 0, 1, 0), 999_000_000);
    }

    private static void promise27DaysTooMany() {
        HoldOuts x = Texts.with("");
        due("401 days", x.days(0, 1, 1, 401, 0), -1);
        due("400 days", x.days(0, 1, 0, 400, 0), 670_186_072);
    }

    private static void promise27NoSuchWhat() {
        HoldOuts x = Texts.with("");
        due("what -1", x.days(0, 1, 1, 1, -1), -1);
        due("what 7", x.days(0, 1, 1, 1, 7), -1);
    }

    private static void promise27FarNumbers() {
        HoldOuts x = Texts.with("");
        for (int far : Edges.FAR) {
            due("q0 " + far, x.days(0, far, 1, 1, 0), -1);
            due("q1 " + far, x.days(0, 1, far, 1, 0), -1);
            due("n " + far, x.days(0, 1, 1, far, 0), -1);
            due("what " + far, x.days(0, 1, 1, 1, far), -1);
        }
    }

    private static void promise27NobodyLeaves() {
        daysAre(Texts.with("win 9;lose 9;tie 9;"), 0, 0, 400, MASS, 0, 0, 0, 0, 0, 0);
    }

    /** "both leaving tie" */
    private static void promise27BothLeaveAtOnce() {
        HoldOuts x = two(6, 2, 4, 2, "win 1;lose 2;tie 3+who;");
        daysAre(x, 1_000, 1_000, 1, 0, 3 * MASS, 4 * MASS, 0, 0, MASS, MASS);
        daysAre(x, 1_000, 1_000, 400, 0, 3 * MASS, 4 * MASS, 0, 0, MASS, MASS);
    }

    /** "Who leaves alone loses, the other one wins" */
    private static void promise27OneLeavesAtOnce() {
        HoldOuts x = two(6, 2, 4, 2, "win 1+who*10;lose 2+who*10;tie 3;");
        daysAre(x, 1_000, 0, 1, 0, 2 * MASS, 11 * MASS, 0, MASS, 0, MASS);
        daysAre(x, 0, 1_000, 1, 0, MASS, 12 * MASS, MASS, 0, 0, MASS);
    }

    /** Each of the three parts is cut on each day, and what is cut off holds out. */
    private static void promise27EachPartIsCut() {
        HoldOuts x = Texts.with("");
        daysAre(x, 999, 999, 1, 1_000, 0, 0, 999_000, 999_000, 998_001_000, 999_999_000);
        daysAre(x, 999, 999, 2, 2, 0, 0, 999_000, 999_000, 998_001_998, 1_000_000_996);
        daysAre(x, 999, 999, 4, 1, 0, 0, 999_000, 999_000, 998_001_999, 1_000_000_999);
        daysAre(x, 333, 777, 3, 3_290_731, 0, 0, 606_811_264, 86_947_254, 302_950_751, 1_160_992_694);
        daysAre(x, 1, 999, 400, 1, 0, 0, 998_999_001, 1_000, 999_998, 1_000_999_998);
    }

    /** One of a MASS of 1 is cut to nothing, for ever. */
    private static void promise27TheLeastMass() {
        daysAre(Texts.with(""), 500, 500, 400, 1, 0, 0, 333_333_333, 333_333_333, 333_333_333, 1_333_333_329);
    }

    /** "mine, other and day d": 1 on the first day. */
    private static void promise27TheFirstDay() {
        HoldOuts x = Texts.with("win mine*100+other*10+day;lose mine*200+other*20+day*2;tie mine*300+other*30+day*3;");
        daysAre(x, 1_000, 0, 1, 0, 222 * MASS, 111 * MASS);
        daysAre(x, 0, 1_000, 1, 0, 111 * MASS, 222 * MASS);
        daysAre(x, 1_000, 1_000, 1, 0, 333 * MASS, 333 * MASS);
    }

    /** 400 on the last one, on which 670,856 leave by one part of 1,000. */
    private static void promise27TheLastDay() {
        HoldOuts x = Texts.with("lose mine+other+day if day=400;");
        due("399 days", x.days(0, 1, 0, 399, 1), 0);
        due("400 days", x.days(0, 1, 0, 400, 1), 1_200L * 670_856);
        due("all days", x.days(0, 1, 0, 400, 6), 61_739_701_120L);
    }

    private static void promise27MostAndLeast() {
        HoldOuts x = Texts.with("tie 9999-19998*who;");
        daysAre(x, 1_000, 1_000, 400, 0, 9_999 * MASS, -9_999 * MASS);
    }

    private static void promise27OfEach() {
        HoldOuts x = two(6, 2, 4, 3, "tie worth*100+purse*10+who;");
        daysAre(x, 1_000, 1_000, 1, 0, 620 * MASS, 431 * MASS);
    }

    // ---- 28: leave: "NONE: none such."

    private static void promise28NoneSuch() {
        HoldOuts x = Texts.with("lose 5;");
        due("contest -1", x.leave(-1, 0, 1), -1);
        due("contest 0", x.leave(0, 0, 1), 1_000);
        due("contest 1", x.leave(1, 0, 1), -1);
        due("q1 -1", x.leave(0, -1, 1), -1);
        due("q1 1001", x.leave(0, 1_001, 1), -1);
        due("q1 1000", x.leave(0, 1_000, 1), 0);
        due("no days", x.leave(0, 0, 0), -1);
        due("401 days", x.leave(0, 0, 401), -1);
        for (int far : Edges.FAR) {
            due("contest " + far, x.leave(far, 0, 1), -1);
            due("q1 " + far, x.leave(0, far, 1), -1);
            due("n " + far, x.leave(0, 0, far), -1);
        }
    }

    /** "the least": all get the same. */
    private static void promise28AllTheSame() {
        HoldOuts x = Texts.with("");
        due("q1 0", x.leave(0, 0, 400), 0);
        due("q1 300", x.leave(0, 300, 400), 0);
    }

    /** With 700 and 750 0 gets the same, 10,500,000,000, and with others less. */
    private static void promise28TheLeastOfTwo() {
        HoldOuts x = Texts.with("lose 9 if day=1;lose 20;");
        due("700", x.days(0, 700, 0, 2, 1), 10_500_000_000L);
        due("750", x.days(0, 750, 0, 2, 1), 10_500_000_000L);
        due("leave", x.leave(0, 0, 2), 700);
    }

    /** "of q0 0, 50, .. 1,000": with 720 0 would get more. */
    private static void promise28BySteps() {
        HoldOuts x = Texts.with("lose 11 if day=1;lose 25;");
        due("whether 720 gets more", x.days(0, 720, 0, 2, 1) > x.days(0, 700, 0, 2, 1), true);
        due("leave", x.leave(0, 0, 2), 700);
        HoldOuts y = Texts.with("lose day;");
        due("750", y.leave(0, 0, 2), 750);
    }

    /** The least and the most, and both of their neighbours. */
    private static void promise28EachEnd() {
        HoldOuts x = Texts.with("lose 1;", "lose 0-1;", "lose 9 if day=1;lose 10;", "lose 0-8 if day=1;lose 10;");
        // Something is left of the MASS with all others.
        due("at once", x.leave(0, 0, 400), 1_000);
        due("never", x.leave(1, 0, 400), 0);
        // 19 q less 10 q q is most at 0.95, and 2 q less 10 q q at 0.1.
        due("950", x.leave(2, 0, 2), 950);
        due("100", x.leave(3, 0, 2), 100);
    }

    /** "what holds out gets nothing" */
    private static void promise28WhatHoldsOut() {
        HoldOuts x = Texts.with("lose 0-1;win 5;tie 5;", "lose 0-1;tie 1;");
        due("never, with the other staying", x.leave(0, 0, 5), 0);
        due("with the other", x.leave(1, 1_000, 5), 1_000);
    }

    /** What 0 wins by the other's leaving is less, the more 0 leaves. */
    private static void promise28WinningByTheOthersLeaving() {
        HoldOuts x = Texts.with("win 10;lose 9;", "win 10;lose 11;", "win 10;tie 10;lose 10;");
        due("staying gets more", x.leave(0, 500, 1), 0);
        due("leaving gets more", x.leave(1, 500, 1), 1_000);
        due("all is worth the same, so that all is to end", x.leave(2, 500, 1), 1_000);
        due("tying gets nothing", x.leave(1, 600, 1), 0);
    }

    /** PLAYER 0's GETS are asked, not 1's. */
    private static void promise28OfPlayer0() {
        HoldOuts x = two(6, 2, 4, 2, "lose 5 if who=1;lose 0-5;", "lose worth-5;");
        due("0 loses by it", x.leave(0, 0, 1), 0);
        due("0 gets 6 less 5", x.leave(1, 0, 1), 1_000);
    }

    /** On day 400 alone winning is bad for 0: with 50 there's nothing left to win by then. */
    private static void promise28TheLastDay() {
        HoldOuts x = Texts.with("win 0-1 if day=400;", "lose 1 if day=100;");
        due("399 days", x.leave(0, 1, 399), 0);
        due("400 days", x.leave(0, 1, 400), 50);
        due("99 days", x.leave(1, 0, 99), 0);
        due("100 days", x.leave(1, 0, 100), 50);
    }

    // ---- 29: learn: "NONE: none such."

    private static void promise29NoneSuch() {
        HoldOuts x = Texts.with(MOST);
        due("contest -1", x.learn(-1, 1, 0, 7), -1);
        due("contest 0", x.learn(0, 1, 0, 7), 1);
        due("contest 1", x.learn(1, 1, 0, 7), -1);
        due("PLAYER -1", x.learn(0, 1, -1, 7), -1);
        due("PLAYER 2", x.learn(0, 1, 2, 7), -1);
        for (int far : Edges.FAR) {
            due("contest " + far, x.learn(far, 1, 0, 7), -1);
            due("n " + far, x.learn(0, far, 0, 7), -1);
            due("PLAYER " + far, x.learn(0, 1, far, 7), -1);
            due("SUM " + far, x.learn(0, 1, 0, far), -1);
        }
    }

    /** "n rounds (1 to 500)" */
    private static void promise29Rounds() {
        HoldOuts x = Texts.with(MOST);
        due("-1 rounds", x.learn(0, -1, 0, 7), -1);
        due("no rounds", x.learn(0, 0, 0, 7), -1);
        due("1 round", x.learn(0, 1, 1, 7), 1);
        due("500 rounds", x.learn(0, 500, 1, 7), 500);
        due("501 rounds", x.learn(0, 501, 1, 7), -1);
    }

    private static void promise29NoSuchSum() {
        HoldOuts x = Texts.with("");
        due("SUM -1", x.learn(0, 5, 0, -1), -1);
        due("SUM 0", x.learn(0, 5, 0, 0), 5);
        due("SUM 7", x.learn(0, 5, 0, 7), 0);
        due("SUM 8", x.learn(0, 5, 0, 8), -1);
    }

    /** "the least SUM up to the PURSE": one above it is put in no round. */
    private static void promise29UpToThePurse() {
        HoldOuts x = Texts.with(MOST);
        for (int purse = 0; purse < 8; purse++) {
            x.player(0, 5, purse);
            x.player(1, 5, 7 - purse);
            due("0 with PURSE " + purse, x.learn(0, 9, 0, purse), 9);
            due("1 with PURSE " + (7 - purse), x.learn(0, 9, 1, 7 - purse), 9);
        }
        due("SUM 7 of 1", x.learn(0, 9, 1, 7), 0);
    }

    private static void promise29TheLeast() {
        HoldOuts x = Texts.with("", "win 5 if mine>2;lose 5;tie 5 if mine>0;");
        due("all the same", x.learn(0, 500, 1, 0), 500);
        due("3 to 7 against 0", x.learn(1, 1, 0, 3), 1);
    }

    /** "in the first one: against 0 once" */
    private static void promise29TheFirstRound() {
        HoldOuts x = Texts.with("win 5 if mine=4 and other=0;lose 1 if mine=2;");
        due("0 against 0", x.learn(0, 1, 0, 4), 1);
        due("1 against 0", x.learn(0, 1, 1, 4), 1);
        due("0 against 4", x.learn(0, 2, 0, 2), 1);
        due("1 against 4", x.learn(0, 2, 1, 2), 1);
    }

    /** The 0 of the first round was put in by nobody: 0 follows 1, who put in 1. */
    private static void promise29NotAgainstTheFirst0Again() {
        HoldOuts x = two(5, 1, 6, 1, Edges.PENNIES);
        due("0's SUM 0", x.learn(0, 2, 0, 0), 1);
        due("0's SUM 1", x.learn(0, 2, 0, 1), 1);
        due("1's SUM 1", x.learn(0, 2, 1, 1), 2);
    }

    /** "against all that the other one put in earlier rounds together" */
    private static void promise29AllEarlierRounds() {
        HoldOuts x = two(5, 1, 6, 1, Edges.PENNIES);
        // 0: 0 1 1 1 0 0 0 0 ..; 1: 1 1 0 0 0 0 0 1 ..
        int[] zeros = {0, 1, 1, 1, 1, 2, 3, 4};
        int[] ones = {0, 1, 2, 2, 2, 2, 2, 2};
        due("0's SUM 0 in 4", x.learn(0, 4, 0, 0), zeros[4]);
        due("1's SUM 1 in 4", x.learn(0, 4, 1, 1), ones[4]);
        due("0's SUM 0 in 5", x.learn(0, 5, 0, 0), zeros[5]);
        due("1's SUM 1 in 5", x.learn(0, 5, 1, 1), ones[5]);
        due("0's SUM 0 in 7", x.learn(0, 7, 0, 0), zeros[7]);
        due("1's SUM 1 in 7", x.learn(0, 7, 1, 1), ones[7]);
    }

    private static void promise29AllRoundsTogether() {
        HoldOuts x = two(17, 5, 11, 4, Edges.CLASSIC);
        for (int who = 0; who < 2; who++) {
            long all = 0;
            for (int sum = 0; sum < 8; sum++) {
                all += x.learn(0, 500, who, sum);
            }
            due("all SUMS of " + who, all, 500);
        }
    }

    // ---- 30: cycle: "NONE: none such."

    private static void promise30NoneSuch() {
        HoldOuts x = Texts.with("");
        due("contest -1", x.cycle(-1, 0, 0, 0), -1);
        due("contest 0", x.cycle(0, 0, 0, 0), 1);
        due("contest 1", x.cycle(1, 0, 0, 0), -1);
        due("what -1", x.cycle(0, 0, 0, -1), -1);
        due("what 1", x.cycle(0, 0, 0, 1), 0);
        due("what 2", x.cycle(0, 0, 0, 2), -1);
        for (int far : Edges.FAR) {
            due("contest " + far, x.cycle(far, 0, 0, 0), -1);
            due("a " + far, x.cycle(0, far, 0, 0), -1);
            due("b " + far, x.cycle(0, 0, far, 0), -1);
            due("what " + far, x.cycle(0, 0, 0, far), -1);
        }
    }

    private static void promise30SumsTooSmall() {
        HoldOuts x = Texts.with("");
        due("a -1", x.cycle(0, -1, 0, 0), -1);
        due("b -1", x.cycle(0, 0, -1, 0), -1);
    }

    /** "a couple of SUMS up to the PURSES" */
    private static void promise30SumsUpToThePurses() {
        HoldOuts x = Texts.with("");
        for (int purse = 0; purse < 8; purse++) {
            x.player(0, 5, purse);
            x.player(1, 5, 7 - purse);
            due("a in the PURSE", x.cycle(0, purse, 0, 0), purse == 0 ? 1 : 2);
            due("a above the PURSE", x.cycle(0, purse + 1, 0, 0), -1);
            due("b in the PURSE", x.cycle(0, 0, 7 - purse, 0), purse == 7 ? 1 : 2);
            due("b above the PURSE", x.cycle(0, 0, 8 - purse, 0), -1);
        }
    }

    /** "(0: as told)": the couple that was told comes back at once, or later. */
    private static void promise30BackToAsTold() {
        HoldOuts x = two(6, 2, 4, 2, "", Edges.CLASSIC);
        due("the TURN", x.cycle(0, 0, 0, 0), 1);
        due("as told", x.cycle(0, 0, 0, 1), 0);
        // (1, 2), (2, 0), (1, 2).
        due("the TURN", x.cycle(1, 1, 2, 0), 2);
        due("as told", x.cycle(1, 1, 2, 1), 0);
    }

    private static void promise30BackToALaterOne() {
        HoldOuts x = two(6, 2, 4, 2, "", Edges.CLASSIC);
        due("the TURN", x.cycle(0, 2, 1, 0), 2);
        due("as behind the first", x.cycle(0, 2, 1, 1), 1);
        // (0, 0), (1, 2), (2, 0), (1, 2).
        due("the TURN", x.cycle(1, 0, 0, 0), 3);
        due("as behind the first", x.cycle(1, 0, 0, 1), 1);
    }

    /** Each of 1's eight SUMS leads to the next one, which is as late as a couple can come back. */
    private static void promise30AsLateAsCanBe() {
        HoldOuts x = Texts.with("win 1 if who=1 and mine=other+1;lose 1 if who=1 and mine=0 and other=7;tie 1 if who=0;");
        due("the TURN", x.cycle(0, 0, 0, 0), 9);
        due("as behind the first", x.cycle(0, 0, 0, 1), 1);
        due("the TURN from one of them", x.cycle(0, 3, 4, 0), 8);
        due("as told", x.cycle(0, 3, 4, 1), 0);
    }

    /** "0's becomes the least SUM up to the PURSE", "then 1's likewise against that" */
    private static void promise30TheLeastAndInTurn() {
        HoldOuts x = two(6, 7, 4, 7, "tie 1 if who=1;win 5 if who=0 and mine>4;");
        // 0 puts in 5 against all below, 1 then 5, 0 then 6 and 1 6, 0 then 7 and 1 7; then 0 wins no more.
        due("the TURN", x.cycle(0, 0, 0, 0), 4);
        due("as told", x.cycle(0, 0, 0, 1), 0);
        due("the TURN from 7", x.cycle(0, 0, 7, 0), 5);
        due("as behind the first", x.cycle(0, 0, 7, 1), 1);
    }

    // ---- 31: run: "-1,000,000,000: WAYS aren't WHOLE, none such."

    private static HoldOuts lots(String text, int[] zeros, int[] ones) {
        HoldOuts x = Texts.with(text);
        for (int sum = 0; sum < 8; sum++) {
            x.lot(0, sum, sum < zeros.length ? zeros[sum] : 0);
            x.lot(1, sum, sum < ones.length ? ones[sum] : 0);
        }
        return x;
    }

    private static HoldOuts eights() {
        int[] parts = {125, 125, 125, 125, 125, 125, 125, 125};
        return lots("win 1;lose 10;tie 100;", parts, parts);
    }

    private static void promise31NotWhole() {
        HoldOuts x = two(6, 2, 4, 2, "");
        due("no WAYS", x.run(0, 1, 1, 0), NO_RUN);
        x.sure(0, 1);
        due("0's alone", x.run(0, 1, 1, 0), NO_RUN);
        x.sure(1, 3);
        due("above the PURSE", x.run(0, 1, 1, 0), NO_RUN);
        x.lot(1, 0, 999);
        due("999 parts", x.run(0, 1, 1, 0), NO_RUN);
        x.lot(1, 0, 1_000);
        due("1,000 parts", x.run(0, 1, 1, 4), 1);
        x.answer(0);
        due("ANSWER by one", x.run(0, 1, 1, 4), 0);
        x.answer(1);
        due("ANSWER by both", x.run(0, 1, 1, 0), NO_RUN);
    }

    private static void promise31NoneSuch() {
        HoldOuts x = eights();
        due("contest -1", x.run(-1, 0, 1, 0), NO_RUN);
        due("contest 1", x.run(1, 0, 1, 0), NO_RUN);
        due("what -1", x.run(0, 0, 1, -1), NO_RUN);
        due("what 5", x.run(0, 0, 1, 5), NO_RUN);
        for (int far : Edges.FAR) {
            due("contest " + far, x.run(far, 0, 1, 0), NO_RUN);
            due("seed " + far, x.run(0, far, 1, 0), NO_RUN);
            due("n " + far, x.run(0, 0, far, 0), NO_RUN);
            due("what " + far, x.run(0, 0, 1, far), NO_RUN);
        }
    }

    private static void runIs(HoldOuts x, int seed, int n, int... wanted) {
        for (int what = 0; what < wanted.length; what++) {
            due("run(0, " + seed + ", " + n + ", " + what + ")", x.run(0, seed, n, what), wanted[what]);
        }
    }

    /** "a seed (0 to 999,999,999)": 0 draws 807 and 424, 999,999,999 draws 190 and 71. */
    private static void promise31Seeds() {
        HoldOuts x = eights();
        due("seed -1", x.run(0, -1, 1, 0), NO_RUN);
        runIs(x, 0, 1, 1, 10, 1, 0, 6 + 3);
        runIs(x, 999_999_999, 1, 1, 10, 1, 0, 1);
        due("seed 1,000,000,000", x.run(0, 1_000_000_000, 1, 0), NO_RUN);
    }

    /** "n rounds (1 to 1,000)": what 64 bits, wrapping, draw in 1,000 rounds was reckoned elsewhere. */
    private static void promise31Rounds() {
        HoldOuts x = eights();
        due("-1 rounds", x.run(0, 0, -1, 0), NO_RUN);
        due("no rounds", x.run(0, 0, 0, 0), NO_RUN);
        due("1,001 rounds", x.run(0, 0, 1_001, 0), NO_RUN);
        int lost0 = 1_000 - 422 - 118;
        runIs(x, 0, 1_000, 422 + 10 * lost0 + 11_800, 4_220 + lost0 + 11_800, 422, 118, 7_042);
        int lost9 = 1_000 - 413 - 134;
        runIs(x, 999_999_999, 1_000, 413 + 10 * lost9 + 13_400, 4_130 + lost9 + 13_400, 413, 134, 7_047);
    }

    /** "shifted to the right by 33 (0 comes in)": seed 0's third draw, 937, has the highest bit. */
    private static void promise31NothingBut0ComesIn() {
        int[] parts = {937, 63};
        HoldOuts x = lots("", parts, new int[] {1_000});
        due("two rounds", x.run(0, 0, 2, 4), 1);
        due("one round", x.run(0, 0, 1, 4), 0);
    }

    /** "the first with which parts from SUM 0 on together are above v": 807 aren't above 807. */
    private static void promise31TogetherAboveV() {
        runIs(lots("", new int[] {807, 0, 193}, new int[] {1_000}), 0, 1, 0, 0, 1, 0, 2);
        runIs(lots("", new int[] {808, 0, 192}, new int[] {1_000}), 0, 1, 0, 0, 0, 1, 0);
        runIs(lots("", new int[] {1_000}, new int[] {424, 0, 576}), 0, 1, 0, 0, 0, 0, 2);
        runIs(lots("", new int[] {1_000}, new int[] {425, 0, 575}), 0, 1, 0, 0, 0, 1, 0);
    }

    /** v from 0, by seed 17, to 999, by seed 31,765. */
    private static void promise31LeastAndMostV() {
        HoldOuts x = lots("", new int[] {0, 1, 0, 998, 0, 0, 0, 1}, new int[] {1_000});
        due("v 0", x.run(0, 17, 1, 4), 1);
        due("v 1", x.run(0, 141, 1, 4), 3);
        due("v 998", x.run(0, 25_522, 1, 4), 3);
        due("v 999", x.run(0, 31_765, 1, 4), 7);
    }

    private static void promise31MostAndLeast() {
        HoldOuts x = Texts.with("tie 9999-19998*who;");
        x.sure(0, 7);
        x.sure(1, 7);
        runIs(x, 5, 1_000, 9_999_000, -9_999_000, 0, 1_000, 14_000);
    }

    // ---- 32: deal: "NONE: none, none such."

    private static void promise32NoneSuch() {
        HoldOuts x = two(6, 2, 4, 2, Edges.CLASSIC);
        due("0 pays", x.deal(0, 0, 0), 0);
        int[][] none = {{-1, 0, 0}, {1, 0, 0}, {0, -1, 0}, {0, 1, 0}, {0, 0, -1}, {0, 0, 2}};
        for (int[] n : none) {
            due("deal(" + n[0] + ", " + n[1] + ", " + n[2] + ")", x.deal(n[0], n[1], n[2]), -1);
        }
        for (int far : Edges.FAR) {
            due("contest " + far, x.deal(far, 0, 0), -1);
            due("REST " + far, x.deal(0, far, 0), -1);
            due("PLAYER " + far, x.deal(0, 0, far), -1);
        }
        due("no REST at all", two(5, 3, 6, 3, Edges.PENNIES).deal(0, 0, 0), -1);
    }

    /** "leaves no less than the one's MEAN": just as much is enough. 1 has no SUM 1, and gets the tie. */
    private static void promise32LeavesNoLess() {
        HoldOuts x = two(5, 1, 6, 0, "tie 7;win 14;");
        // One REST, 1 and 0: 0 gets 14, 1 gets 0.
        due("rests", x.rests(0), 1);
        due("14 less 0 is 14", x.deal(0, 0, 0), 0);
        due("7 less 14 is less than 0", x.deal(0, 0, 1), -1);
        HoldOuts y = two(5, 1, 6, 1, "tie 2-2*who;win 2*who;lose 2*who;");
        // MEANS of 1; SUM 1 gets 1 2 against 0, and 0 nothing.
        due("2 less 1 is 1", y.deal(0, 0, 1), 1);
        due("0 less 1 is less than 1", y.deal(0, 0, 0), -1);
    }

    /** "the least whole number .. not below the other's MEAN" */
    private static void promise32NotBelowTheOthersMean() {
        // Halves: 0 gets 3 halves in the mean, 1 gets 5 halves; SUM 1 gets 1 5 against 0.
        HoldOuts x = two(5, 1, 6, 1, "tie 3-3*who;win 5*who;lose 5*who;");
        due("5 less 2 is 3", x.deal(0, 0, 1), 2);
        due("0 less 3 is less", x.deal(0, 0, 0), -1);
    }

    /** "0 at least", though the other's MEAN is below. */
    private static void promise32NothingAtLeast() {
        HoldOuts x = two(5, 0, 6, 0, "tie 0-2;");
        due("0 pays nothing", x.deal(0, 0, 0), 0);
        due("1 pays nothing", x.deal(0, 0, 1), 0);
    }

    /** What SUM 1 gets must be no less than the MEAN, though nothing is paid. */
    private static void promise32NoneThoughNothingIsPaid() {
        HoldOuts x = two(5, 2, 6, 0, "tie 0-2;win 5 if mine=2;win 4;");
        due("rests", x.rests(0), 1);
        due("the set", x.rest(0, 0, 1), 4);
        due("4 is less than 5", x.deal(0, 0, 0), -1);
    }

    /** "SUM 1 (if the PURSE has it, else 0)": of the one who pays. */
    private static void promise32ThePayersPurse() {
        HoldOuts x = two(5, 0, 6, 0, "tie 0;win 9;");
        due("with 0 both get 0", x.deal(0, 0, 0), 0);
        HoldOuts y = two(5, 0, 6, 0, "tie 7;win 99;");
        due("7 less 7 is less than 7", y.deal(0, 0, 0), -1);
        due("for 1 as well", y.deal(0, 0, 1), -1);
        HoldOuts z = two(5, 1, 6, 0, "tie 7;win 7;lose 7;");
        due("1's PURSE is 0, 0's isn't", z.rests(0), 2);
        due("7 less 7 is less than 7", z.deal(0, 0, 0), -1);
        HoldOuts w = two(5, 1, 6, 1, "win 20 if mine=1 and other=0;tie 7;lose 7;win 7;", "win 14;tie 7;lose 7;");
        due("20 less 7 is 13, less than 20", w.deal(0, 0, 1), -1);
        due("14 less 7 is 7", w.deal(1, w.rests(1) - 1, 0), 7);
    }

    // ---- 33: forget

    private static void promise33None() {
        HoldOuts x = new HoldOuts();
        due("forget()", x.forget(), 0);
        due("forget() again", x.forget(), 0);
    }

    private static void promise33Full() {
        HoldOuts x = new HoldOuts();
        for (int i = 0; i < 4; i++) {
            x.sort(0, 5, 5);
            x.sort(1, 5, 5);
        }
        due("forget()", x.forget(), 6);
        due("0's", x.count(3), 0);
        due("1's", x.count(4), 0);
        due("forget() again", x.forget(), 0);
    }

    private static void promise33OfOneAlone() {
        for (int who = 0; who < 2; who++) {
            HoldOuts x = new HoldOuts();
            x.sort(who, 5, 5);
            x.sort(who, 5, 5);
            due("forget()", x.forget(), 2);
        }
    }

    private static void promise33ToldNoMore() {
        HoldOuts x = two(5, 0, 6, 0, "");
        x.sort(0, 5, 1_000);
        x.sort(1, 5, 1_000);
        due("a row", x.sorted(0, 0, 0), 0);
        x.forget();
        due("no row", x.sorted(0, 0, 0), -1);
    }

    /** WORTHS, PURSES, WAYS, CONTESTS and the tape stay. */
    private static void promise33NothingElse() {
        HoldOuts x = Edges.busy();
        long[] before = new long[12];
        for (int what = 0; what < 12; what++) {
            before[what] = x.count(what);
        }
        due("forget()", x.forget(), 3);
        for (int what = 0; what < 12; what++) {
            due("count(" + what + ")", x.count(what), what == 3 || what == 4 ? 0 : before[what]);
        }
        due("0's WAY", x.part(0, 0, 2), 700);
        due("1's WAY", x.part(0, 1, 1), 1_000);
        due("rests", x.rests(0), 1);
    }

    // ---- 34: count: "NONE for others."

    private static void promise34Others() {
        HoldOuts x = Edges.busy();
        due("count(-1)", x.count(-1), -1);
        due("count(12)", x.count(12), -1);
        for (int far : Edges.FAR) {
            due("count(" + far + ")", x.count(far), -1);
        }
    }

    private static void promise34Each() {
        HoldOuts x = Texts.with("win 1;", "win 1;tie 2;lose 3;");
        x.player(0, 11, 1);
        x.player(1, 22, 2);
        x.player(2, 33, 3);
        x.sort(0, 5, 5);
        x.sort(1, 5, 5);
        x.sort(1, 5, 5);
        x.feed(0, 0, 0, 0, 0);
        long[] wanted = {2, 3, 20, 1, 2, 0, 11, 22, 33, 1, 2, 3};
        for (int what = 0; what < wanted.length; what++) {
            due("count(" + what + ")", x.count(what), wanted[what]);
        }
    }

    /** Empty: no CONTEST has no statements, and neither has the empty text. */
    private static void promise34StatementsOfTheLast() {
        HoldOuts x = new HoldOuts();
        due("no CONTEST", x.count(1), 0);
        Texts.tell(x, "win 1;tie 2;");
        due("two", x.count(1), 2);
        Texts.tell(x, "win 1;tie 2;lose");
        due("a FAULT is no CONTEST", x.count(1), 2);
        x.contest(-1);
        due("-2 is no CONTEST", x.count(1), 2);
        x.contest(0);
        due("the empty text", x.count(1), 0);
        Texts.tell(x, "win 1;".repeat(20));
        due("full", x.count(1), 20);
    }

    private static void promise34Full() {
        HoldOuts x = Texts.with("", "", "", "", "", "", "", "win 1;");
        for (int i = 0; i < 30; i++) {
            x.feed(0, 0, 0, 0, 0);
        }
        due("CONTESTS", x.count(0), 8);
        due("statements", x.count(1), 1);
        due("bytes", x.count(2), 500);
    }

    /** "whether WAYS are told as ANSWER by both (1)" */
    private static void promise34AnswerByBoth() {
        HoldOuts x = new HoldOuts();
        due("by none", x.count(5), 0);
        x.answer(0);
        due("by 0", x.count(5), 0);
        x.answer(1);
        due("by both", x.count(5), 1);
        x.sure(0, 0);
        due("by 1", x.count(5), 0);
        x.answer(0);
        due("by both again", x.count(5), 1);
        x.lot(1, 0, 0);
        due("by 0 again", x.count(5), 0);
    }
}
