import java.util.function.ToLongFunction;

/** The edges that promises 15 to 22 name: WAYS, and what they get. */
public final class WayEdgesTest {
    private static final long NO_WORTH = -1_000_000_000_000L;

    public static void main(String[] args) throws ReflectiveOperationException {
        Edges.runAll(WayEdgesTest.class, 15, 22);
    }

    private static void due(String call, long got, long want) {
        Edges.due(call, got, want);
    }

    private static void due(String call, boolean got, boolean want) {
        Edges.due(call, got, want);
    }

    private static HoldOuts two(int worth0, int purse0, int worth1, int purse1, String... texts) {
        return Edges.two(worth0, purse0, worth1, purse1, texts);
    }

    // ---- 15: sure: "true; false, doing nothing: not PLAYER 0 or 1, no SUM 0 to 7."

    private static void sureRefused(int who, int sum) {
        Edges.refused("sure(" + who + ", " + sum + ")", x -> Edges.number(x.sure(who, sum)), 0);
    }

    private static void promise15NotPlayer0Or1() {
        sureRefused(-1, 1);
        sureRefused(2, 1);
        sureRefused(3, 1);
    }

    private static void promise15SumTooSmall() {
        sureRefused(0, -1);
        sureRefused(1, -1);
    }

    private static void promise15SumTooLarge() {
        sureRefused(0, 8);
        sureRefused(1, 8);
    }

    private static void promise15FarRefused() {
        for (int far : Edges.FAR) {
            sureRefused(far, 1);
            sureRefused(0, far);
        }
    }

    private static void promise15EachSum() {
        HoldOuts x = Texts.with("");
        x.sure(0, 0);
        x.sure(1, 0);
        for (int who = 0; who < 2; who++) {
            for (int sum = 0; sum < 8; sum++) {
                due("sure(" + who + ", " + sum + ")", x.sure(who, sum), true);
                due("way", x.way(who), 1);
                for (int other = 0; other < 8; other++) {
                    due("parts for " + other, x.part(0, who, other), other == sum ? 1_000 : 0);
                }
            }
        }
    }

    /** A SUM above the PURSE is taken, though not WHOLE. */
    private static void promise15AboveThePurse() {
        HoldOuts x = two(5, 2, 6, 2, "");
        x.sure(1, 0);
        due("sure(0, 3)", x.sure(0, 3), true);
        due("way(0)", x.way(0), 1);
        due("part", x.part(0, 0, 3), -1);
        x.player(0, 5, 3);
        due("part with a greater PURSE", x.part(0, 0, 3), 1_000);
    }

    // ---- 16: lot: "true; false, doing nothing: not as told."

    private static void lotRefused(int who, int sum, int parts) {
        Edges.refused("lot(" + who + ", " + sum + ", " + parts + ")", x -> Edges.number(x.lot(who, sum, parts)), 0);
    }

    private static void promise16NotPlayer0Or1() {
        lotRefused(-1, 1, 100);
        lotRefused(2, 1, 100);
    }

    private static void promise16SumTooSmall() {
        lotRefused(0, -1, 100);
        lotRefused(1, -1, 100);
    }

    private static void promise16SumTooLarge() {
        lotRefused(0, 8, 100);
        lotRefused(1, 8, 100);
    }

    private static void promise16PartsTooSmall() {
        lotRefused(0, 1, -1);
        lotRefused(1, 1, -1);
    }

    private static void promise16PartsTooLarge() {
        lotRefused(0, 1, 1_001);
        lotRefused(1, 1, 1_001);
    }

    private static void promise16FarRefused() {
        for (int far : Edges.FAR) {
            lotRefused(far, 1, 100);
            lotRefused(0, far, 100);
            lotRefused(0, 1, far);
        }
    }

    /** A refused lot() leaves another WAY, and none, as it is. */
    private static void promise16RefusedIsNoWay() {
        HoldOuts x = new HoldOuts();
        x.lot(0, 0, 1_001);
        due("way(0)", x.way(0), 0);
        x.answer(0);
        x.lot(0, 8, 1_000);
        due("way(0)", x.way(0), 3);
    }

    private static void promise16LeastAndMostParts() {
        HoldOuts x = Texts.with("");
        x.sure(1, 0);
        due("lot(0, 0, 0)", x.lot(0, 0, 0), true);
        due("way(0)", x.way(0), 2);
        due("not WHOLE", x.part(0, 0, 0), -1);
        due("lot(0, 7, 1000)", x.lot(0, 7, 1_000), true);
        due("WHOLE", x.part(0, 0, 7), 1_000);
        due("lot(0, 7, 999)", x.lot(0, 7, 999), true);
        due("lot(0, 0, 1)", x.lot(0, 0, 1), true);
        due("parts for 0", x.part(0, 0, 0), 1);
        due("parts for 7", x.part(0, 0, 7), 999);
    }

    private static void promise16EachSum() {
        HoldOuts x = Texts.with("");
        for (int who = 0; who < 2; who++) {
            for (int sum = 0; sum < 8; sum++) {
                due("lot(" + who + ", " + sum + ")", x.lot(who, sum, 90 + 10 * sum), true);
            }
        }
        // From 90 to 160, together 1,000.
        for (int who = 0; who < 2; who++) {
            for (int sum = 0; sum < 8; sum++) {
                due("part of " + who + " for " + sum, x.part(0, who, sum), 90 + 10 * sum);
            }
        }
    }

    /** "those that they have": told once more, the SUM's parts are others, the rest stay. */
    private static void promise16ThoseThatTheyHave() {
        HoldOuts x = Texts.with("");
        x.sure(1, 0);
        x.lot(0, 1, 400);
        x.lot(0, 2, 600);
        x.lot(0, 2, 500);
        due("not WHOLE", x.part(0, 0, 1), -1);
        x.lot(0, 5, 100);
        due("parts for 1", x.part(0, 0, 1), 400);
        due("parts for 2", x.part(0, 0, 2), 500);
        due("parts for 5", x.part(0, 0, 5), 100);
    }

    /** "else all 0": behind SURE. */
    private static void promise16BehindSure() {
        HoldOuts x = Texts.with("");
        x.sure(1, 0);
        x.sure(0, 3);
        x.lot(0, 1, 1_000);
        due("parts for 1", x.part(0, 0, 1), 1_000);
        due("parts for 3", x.part(0, 0, 3), 0);
    }

    private static void promise16BehindAnswer() {
        HoldOuts x = Texts.with("");
        x.sure(1, 0);
        x.lot(0, 4, 500);
        x.answer(0);
        x.lot(0, 1, 500);
        due("not WHOLE", x.part(0, 0, 1), -1);
        x.lot(0, 2, 500);
        due("parts for 1", x.part(0, 0, 1), 500);
        due("parts for 4", x.part(0, 0, 4), 0);
    }

    private static void promise16LotsBehindSureBehindLots() {
        HoldOuts x = Texts.with("");
        x.sure(1, 0);
        x.lot(0, 4, 500);
        x.sure(0, 4);
        x.lot(0, 1, 1_000);
        due("parts for 1", x.part(0, 0, 1), 1_000);
        due("parts for 4", x.part(0, 0, 4), 0);
    }

    private static void promise16OfEachAlone() {
        HoldOuts x = Texts.with("");
        x.lot(0, 4, 1_000);
        x.lot(1, 5, 1_000);
        due("0's", x.part(0, 0, 4), 1_000);
        due("1's", x.part(0, 1, 4), 0);
        due("1's", x.part(0, 1, 5), 1_000);
    }

    // ---- 17: answer: "true; false: not PLAYER 0 or 1."

    private static void promise17NotPlayer0Or1() {
        Edges.refused("answer(-1)", x -> Edges.number(x.answer(-1)), 0);
        Edges.refused("answer(2)", x -> Edges.number(x.answer(2)), 0);
        for (int far : Edges.FAR) {
            Edges.refused("answer(" + far + ")", x -> Edges.number(x.answer(far)), 0);
        }
    }

    private static void promise17EachAlone() {
        HoldOuts x = new HoldOuts();
        due("answer(0)", x.answer(0), true);
        due("way(0)", x.way(0), 3);
        due("way(1)", x.way(1), 0);
        due("answer(1)", x.answer(1), true);
        due("way(1)", x.way(1), 3);
    }

    // ---- 18: way: "NONE: not PLAYER 0 or 1."

    private static void promise18NotPlayer0Or1() {
        HoldOuts x = Edges.busy();
        due("way(-1)", x.way(-1), -1);
        due("way(2)", x.way(2), -1);
        for (int far : Edges.FAR) {
            due("way(" + far + ")", x.way(far), -1);
        }
    }

    private static void promise18AsToldLast() {
        HoldOuts x = new HoldOuts();
        for (int who = 0; who < 2; who++) {
            due("none", x.way(who), 0);
            x.sure(who, 7);
            due("SURE", x.way(who), 1);
            x.lot(who, 7, 0);
            due("LOTS", x.way(who), 2);
            x.answer(who);
            due("ANSWER", x.way(who), 3);
            x.lot(who, 7, 0);
            due("LOTS", x.way(who), 2);
            x.sure(who, 0);
            due("SURE", x.way(who), 1);
        }
    }

    // ---- 19 to 22: "WAYS aren't WHOLE, none such."

    /** An object whose CONTEST 0 is CLASSIC, with 0 of WORTH 6 and 1 of 4, and PURSES of 2. */
    private static HoldOuts classic() {
        return two(6, 2, 4, 2, Edges.CLASSIC);
    }

    private static HoldOuts whole() {
        HoldOuts x = classic();
        x.sure(0, 1);
        x.sure(1, 2);
        return x;
    }

    /** Asks the same of each object whose WAYS aren't WHOLE. */
    private static void unlessWhole(ToLongFunction<HoldOuts> call, long none) {
        HoldOuts x = classic();
        due("no WAYS", call.applyAsLong(x), none);
        x.sure(0, 1);
        due("0's alone", call.applyAsLong(x), none);
        x = classic();
        x.sure(1, 1);
        due("1's alone", call.applyAsLong(x), none);
        x.answer(0);
        due("whether ANSWER to SURE is WHOLE", call.applyAsLong(x) != none, true);
        x.answer(1);
        due("ANSWER by both", call.applyAsLong(x), none);
        x.sure(0, 1);
        due("whether SURE and ANSWER are WHOLE", call.applyAsLong(x) != none, true);
        x.sure(0, 3);
        due("ANSWER to what isn't", call.applyAsLong(x), none);
        x = classic();
        x.answer(0);
        due("ANSWER to none", call.applyAsLong(x), none);
        for (int who = 0; who < 2; who++) {
            x = whole();
            due("whether both are", call.applyAsLong(x) != none, true);
            x.sure(who, 3);
            due("SURE above the PURSE", call.applyAsLong(x), none);
            x.lot(who, 0, 999);
            due("999 parts", call.applyAsLong(x), none);
            x.lot(who, 2, 2);
            due("1,001 parts", call.applyAsLong(x), none);
            x.lot(who, 2, 1);
            due("whether 1,000 parts are", call.applyAsLong(x) != none, true);
            x.lot(who, 2, 0);
            x.lot(who, 3, 1);
            due("parts above the PURSE", call.applyAsLong(x), none);
            x.player(who, 5, 3);
            due("whether they are in the PURSE now", call.applyAsLong(x) != none, true);
            x.lot(who, 2, 1);
            due("1,001 parts again", call.applyAsLong(x), none);
            x.player(who, 5, 2);
            due("1,000 parts and another above the PURSE", call.applyAsLong(x), none);
        }
    }

    private static void promise19NotWhole() {
        unlessWhole(x -> x.part(0, 0, 0), -1);
        unlessWhole(x -> x.part(0, 1, 7), -1);
    }

    private static void promise19NoSuchContest() {
        HoldOuts x = whole();
        due("contest -1", x.part(-1, 0, 1), -1);
        due("contest 0", x.part(0, 0, 1), 1_000);
        due("contest 1", x.part(1, 0, 1), -1);
        for (int far : Edges.FAR) {
            due("contest " + far, x.part(far, 0, 1), -1);
        }
    }

    private static void promise19NoSuchPlayer() {
        HoldOuts x = whole();
        due("PLAYER -1", x.part(0, -1, 1), -1);
        due("PLAYER 2", x.part(0, 2, 1), -1);
        for (int far : Edges.FAR) {
            due("PLAYER " + far, x.part(0, far, 1), -1);
        }
    }

    private static void promise19NoSuchSum() {
        HoldOuts x = whole();
        due("SUM -1", x.part(0, 0, -1), -1);
        due("SUM 0", x.part(0, 0, 0), 0);
        due("SUM 7, above the PURSE", x.part(0, 0, 7), 0);
        due("SUM 8", x.part(0, 0, 8), -1);
        for (int far : Edges.FAR) {
            due("SUM " + far, x.part(0, 0, far), -1);
        }
    }

    /** "ANSWER: the least of the SUMS up to the PURSE that get most" */
    private static void promise19AnswerUpToThePurse() {
        HoldOuts x = Texts.with("tie mine;win mine;lose mine;");
        for (int who = 0; who < 2; who++) {
            x.answer(who);
            x.sure(1 - who, 0);
            for (int purse = 0; purse < 8; purse++) {
                x.player(who, 5, purse);
                due("ANSWER with PURSE " + purse, x.part(0, who, purse), 1_000);
            }
        }
    }

    private static void promise19AnswerIsTheLeast() {
        HoldOuts x = Texts.with("", "win 5 if mine>2;");
        x.answer(0);
        x.sure(1, 0);
        due("all the same", x.part(0, 0, 0), 1_000);
        due("3 to 7 the same", x.part(1, 0, 3), 1_000);
        due("3 to 7 the same", x.part(1, 0, 7), 0);
        x.sure(0, 0);
        x.answer(1);
        due("all the same", x.part(0, 1, 0), 1_000);
        due("3 to 7 the same", x.part(1, 1, 3), 1_000);
    }

    /** ANSWER is worked out anew with each CONTEST and with what the other one tells. */
    private static void promise19AnswerToWhatIsTold() {
        HoldOuts x = two(6, 2, 4, 2, Edges.CLASSIC, "tie 9;");
        x.answer(0);
        x.sure(1, 0);
        due("against 0", x.part(0, 0, 1), 1_000);
        x.sure(1, 1);
        due("against 1", x.part(0, 0, 2), 1_000);
        due("in the other CONTEST", x.part(1, 0, 1), 1_000);
        due("against 1 again", x.part(0, 0, 2), 1_000);
        due("not what it was", x.part(0, 0, 1), 0);
    }

    // ---- 20: worth

    private static void promise20NotWhole() {
        unlessWhole(x -> x.worth(0, 0), NO_WORTH);
        unlessWhole(x -> x.worth(0, 1), NO_WORTH);
    }

    private static void promise20NoneSuch() {
        HoldOuts x = whole();
        due("contest -1", x.worth(-1, 0), NO_WORTH);
        due("contest 1", x.worth(1, 0), NO_WORTH);
        due("PLAYER -1", x.worth(0, -1), NO_WORTH);
        due("PLAYER 2", x.worth(0, 2), NO_WORTH);
        for (int far : Edges.FAR) {
            due("contest " + far, x.worth(far, 0), NO_WORTH);
            due("PLAYER " + far, x.worth(0, far), NO_WORTH);
        }
        due("0 loses 1", x.worth(0, 0), -1_000_000);
        due("1 gets 4 less 2", x.worth(0, 1), 2_000_000);
    }

    private static void promise20MostAndLeast() {
        HoldOuts x = two(6, 7, 4, 7, "tie 9999-19998*who;win 9999-19998*who;lose 9999-19998*who;");
        for (int sum = 0; sum < 8; sum++) {
            x.lot(0, sum, 125);
            x.lot(1, sum, 125);
        }
        due("most", x.worth(0, 0), 9_999_000_000L);
        due("least", x.worth(0, 1), -9_999_000_000L);
    }

    /** "all GETS times both parts, together" */
    private static void promise20BothParts() {
        HoldOuts x = classic();
        x.lot(0, 0, 1);
        x.lot(0, 2, 999);
        x.lot(1, 1, 300);
        x.lot(1, 2, 700);
        // 0 gets 0 with 0; with 2 it gets 4 against 1 and 1 against 2.
        due("worth(0, 0)", x.worth(0, 0), 999 * (4 * 300 + 700));
        // 1 gets 3 and 2 against 0; against 2 it gets -1 and 0.
        due("worth(0, 1)", x.worth(0, 1), 3 * 300 + 2 * 700 - 999 * 300);
    }

    // ---- 21: best

    private static void promise21NotWhole() {
        unlessWhole(x -> x.best(0, 0), -1);
        unlessWhole(x -> x.best(0, 1), -1);
    }

    private static void promise21NoneSuch() {
        HoldOuts x = whole();
        due("contest -1", x.best(-1, 0), -1);
        due("contest 1", x.best(1, 0), -1);
        due("PLAYER -1", x.best(0, -1), -1);
        due("PLAYER 2", x.best(0, 2), -1);
        for (int far : Edges.FAR) {
            due("contest " + far, x.best(far, 0), -1);
            due("PLAYER " + far, x.best(0, far), -1);
        }
        // Against 2, 0 gets 0, -1 or 1; against 1, 1 gets 0, 1 or 2.
        due("best(0, 0)", x.best(0, 0), 2);
        due("best(0, 1)", x.best(0, 1), 2);
    }

    /** "the least SUM that gets a PLAYER most" */
    private static void promise21TheLeast() {
        HoldOuts x = two(6, 7, 4, 7, "", "win 5 if mine>2;", "win 5 if mine>2;win 4;tie 5;lose 5;");
        x.sure(0, 0);
        x.sure(1, 0);
        for (int who = 0; who < 2; who++) {
            due("all the same", x.best(0, who), 0);
            due("3 to 7 the same", x.best(1, who), 3);
            due("0 as good as 3 to 7", x.best(2, who), 0);
        }
    }

    private static void promise21UpToThePurse() {
        HoldOuts x = Texts.with("tie mine;win mine;lose mine;");
        for (int purse = 0; purse < 8; purse++) {
            x.player(0, 5, purse);
            x.player(1, 5, 7 - purse);
            x.sure(0, 0);
            x.sure(1, 0);
            due("best of 0 with PURSE " + purse, x.best(0, 0), purse);
            due("best of 1 with PURSE " + (7 - purse), x.best(0, 1), 7 - purse);
        }
    }

    // ---- 22: judge: "NONE: nobody; -2: WAYS aren't WHOLE, none such."

    private static void promise22NotWhole() {
        unlessWhole(x -> x.judge(0), -2);
    }

    private static void promise22NoSuchContest() {
        HoldOuts x = whole();
        due("contest -1", x.judge(-1), -2);
        due("contest 0", x.judge(0), 2);
        due("contest 1", x.judge(1), -2);
        for (int far : Edges.FAR) {
            due("contest " + far, x.judge(far), -2);
        }
    }

    private static void promise22Nobody() {
        HoldOuts x = two(6, 7, 4, 7, "");
        x.sure(0, 7);
        x.sure(1, 7);
        due("all the same", x.judge(0), -1);
        HoldOuts y = classic();
        y.sure(0, 2);
        y.sure(1, 2);
        due("at rest", y.judge(0), -1);
    }

    /** As good as BEST is not less, though BEST is another SUM. */
    private static void promise22AsGoodAsBest() {
        HoldOuts x = two(6, 7, 4, 7, "win 5 if mine>2;");
        x.sure(0, 7);
        x.lot(1, 0, 1_000);
        due("BEST is", x.best(0, 0), 3);
        due("judge", x.judge(0), -1);
    }

    /** One part of 1,000 that gets one less is enough to be judged. */
    private static void promise22ByOnePart() {
        HoldOuts x = two(6, 1, 4, 0, "tie 1;");
        x.lot(0, 0, 999);
        x.lot(0, 1, 1);
        x.sure(1, 0);
        due("judge", x.judge(0), 0);
        x.lot(0, 0, 1_000);
        x.lot(0, 1, 0);
        due("judge", x.judge(0), -1);
    }

    /** "the first PLAYER who gets more", "10 times the PLAYER, and BEST" */
    private static void promise22TheFirst() {
        HoldOuts x = classic();
        x.sure(0, 0);
        x.sure(1, 0);
        due("both would, 0 by SUM 1", x.judge(0), 1);
        x.sure(0, 1);
        due("1 would by SUM 2", x.judge(0), 12);
        x.sure(0, 2);
        x.sure(1, 1);
        due("1 would by SUM 0", x.judge(0), 10);
    }

    private static void promise22TheMost() {
        HoldOuts x = two(6, 0, 4, 7, "tie mine;win mine;lose mine;");
        x.sure(0, 0);
        x.sure(1, 6);
        due("1 would by SUM 7", x.judge(0), 17);
    }

    /** Who gives the ANSWER has nothing better. */
    private static void promise22AnswerIsNotJudged() {
        HoldOuts x = classic();
        x.answer(0);
        x.sure(1, 1);
        due("1 would by SUM 0", x.judge(0), 10);
        x.answer(1);
        x.sure(0, 2);
        due("0 would by SUM 1", x.judge(0), 1);
    }
}
