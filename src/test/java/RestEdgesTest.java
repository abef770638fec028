/** The edges that promises 7 to 14 name: RESTS of two, and what is told of them. */
public final class RestEdgesTest {
    // Both want to put in the same: each set is a RESTS' one for both, with the same CHANCE for all.
    private static final String SAME = "tie 1;";
    // 0 wants both to put in 0 or neither, 1 wants one of both to: 1 and 2 are alike for each.
    private static final String ALIKE = "tie 1 if who=0;win 1 if who=0 and other>0;lose 1 if who=0 and mine>0;"
        + "win 1 if who=1 and other=0;lose 1 if who=1 and mine=0;";
    // CHANCES of a third for 0 and two thirds for 1, and the same for both.
    private static final String ONE_OF_THREE = "tie 2-mine;";
    // -3 for 0 and 1 by halves.
    private static final String BELOW = "tie 0-3*who;win 3*who-3;lose 3*who-3;";

    public static void main(String[] args) throws ReflectiveOperationException {
        Edges.runAll(RestEdgesTest.class, 7, 14);
    }

    private static void due(String call, long got, long want) {
        Edges.due(call, got, want);
    }

    private static HoldOuts two(int worth0, int purse0, int worth1, int purse1, String... texts) {
        return Edges.two(worth0, purse0, worth1, purse1, texts);
    }

    // ---- 7: rests: "NONE: no such CONTEST."

    private static void promise07NoSuchContest() {
        HoldOuts x = two(5, 1, 6, 1, Edges.PENNIES, SAME);
        due("rests(-1)", x.rests(-1), -1);
        due("rests(0)", x.rests(0), 1);
        due("rests(1)", x.rests(1), 3);
        due("rests(2)", x.rests(2), -1);
        due("rests(8)", x.rests(8), -1);
        for (int far : Edges.FAR) {
            due("rests(" + far + ")", x.rests(far), -1);
        }
    }

    private static void promise07NoRest() {
        due("rests of pennies with four SUMS", two(5, 3, 6, 3, Edges.PENNIES).rests(0), 0);
    }

    /** "none above the PURSE": subsets of one to three of the SUMS that both have. */
    private static void promise07NoneAboveThePurse() {
        HoldOuts x = Texts.with(SAME);
        int[] subsets = {1, 3, 7, 14, 25, 41, 63, 92};
        for (int purse0 = 0; purse0 < 8; purse0++) {
            for (int purse1 = 0; purse1 < 8; purse1++) {
                x.player(0, 5, purse0);
                x.player(1, 6, purse1);
                due("rests with PURSES " + purse0 + " and " + purse1, x.rests(0), subsets[Math.min(purse0, purse1)]);
            }
        }
    }

    /** "of as many, one to three": the whole of four SUMS would be one more. */
    private static void promise07NoSetOfFour() {
        HoldOuts x = two(5, 3, 6, 3, SAME);
        due("rests", x.rests(0), 14);
        due("how many SUMS the last has", x.rest(0, 13, 0), 3);
    }

    /** Where all get 0, one SUM against two would be at rest, too. */
    private static void promise07AsManyEach() {
        HoldOuts x = Texts.with("");
        for (int purse0 = 0; purse0 < 8; purse0++) {
            for (int purse1 = 0; purse1 < 8; purse1++) {
                x.player(0, 5, purse0);
                x.player(1, 6, purse1);
                due("rests with PURSES " + purse0 + " and " + purse1, x.rests(0), (purse0 + 1) * (purse1 + 1));
            }
        }
    }

    /** "must be just one row": of three SUMS two are alike, so that their CHANCES are many rows. */
    private static void promise07MoreThanOneRow() {
        HoldOuts x = two(5, 2, 6, 2, ALIKE);
        due("rests", x.rests(0), 4);
        for (int r = 0; r < 4; r++) {
            due("how many SUMS " + r + " has", x.rest(0, r, 0), 2);
        }
    }

    /** "a set of one: that one surely" */
    private static void promise07OneSurely() {
        HoldOuts x = two(5, 0, 6, 0, "tie 0-5;");
        due("rests", x.rests(0), 1);
        due("0's CHANCE", x.rest(0, 0, 10), 1);
        due("1's CHANCE", x.rest(0, 0, 20), 1);
        due("by", x.rest(0, 0, 3), 1);
        due("by", x.rest(0, 0, 4), 1);
    }

    /** "and all above 0": SUM 1 gets no less than 0 against 0, and more against 1. */
    private static void promise07ChanceOf0() {
        HoldOuts x = two(5, 1, 6, 1, "tie mine;");
        due("rests", x.rests(0), 2);
        due("the last's size", x.rest(0, 1, 0), 1);
    }

    /** Three SUMS get the same only with halves for 0 and 1, and nothing for 2: of 0, then of 1. */
    private static void promise07ChanceOf0OfThree() {
        String[] sides = {"who=0", "who=1"};
        for (int side = 0; side < 2; side++) {
            String who = sides[side];
            HoldOuts x = two(5, 2, 6, 2, "tie 1+4*(mine/2) if " + who + ";win 2-3*other if " + who + " and mine=2;win 0 if "
                + who + ";lose 0 if " + who + ";" + Edges.THIRDS);
            // 2 against 0; and 0 and 2 against 0 and 1.
            due("rests with " + who, x.rests(0), 2);
            due("the first's set", x.rest(0, 0, 1 + side), 4);
            due("the first's other set", x.rest(0, 0, 2 - side), 1);
            due("the second's set", x.rest(0, 1, 1 + side), 5);
            due("the second's other set", x.rest(0, 1, 2 - side), 3);
        }
    }

    /** Only CHANCES below 0 would make both SUMS the same. */
    private static void promise07ChanceBelow0() {
        HoldOuts x = two(5, 1, 6, 1, "tie mine*2;win mine;");
        due("rests", x.rests(0), 1);
        due("0's set", x.rest(0, 0, 1), 2);
        due("1's set", x.rest(0, 0, 2), 2);
    }

    /** "no other SUM up to the PURSE gets 0, or 1, more": as much is no more. */
    private static void promise07AnotherGetsAsMuch() {
        due("0's other SUM", two(5, 1, 6, 0, "tie 2 if who=0;win 2 if who=0;").rests(0), 2);
        due("1's other SUM", two(5, 0, 6, 1, "tie 2 if who=1;win 2 if who=1;").rests(0), 2);
        HoldOuts x = two(5, 2, 6, 1, "win 1 if mine=2 and other=0;" + Edges.PENNIES);
        due("rests of two SUMS beside a third", x.rests(0), 2);
        due("the first's set", x.rest(0, 0, 1), 4);
        due("the second's set", x.rest(0, 1, 1), 3);
    }

    private static void promise07AnotherGetsMore() {
        due("0's other SUM", two(5, 1, 6, 0, "tie 2 if who=0;win 3 if who=0;").rests(0), 1);
        due("1's other SUM", two(5, 0, 6, 1, "tie 2 if who=1;win 3 if who=1;").rests(0), 1);
        HoldOuts x = two(5, 2, 6, 1, "win 2 if mine=2 and other=0;" + Edges.PENNIES);
        due("rests of two SUMS beside a third", x.rests(0), 1);
        due("the only one's set", x.rest(0, 0, 1), 4);
    }

    /** What would get more can't be put in. */
    private static void promise07AnotherAboveThePurse() {
        HoldOuts x = two(5, 1, 6, 1, "win 9999 if mine=2;" + Edges.PENNIES);
        due("rests", x.rests(0), 1);
        due("0's set", x.rest(0, 0, 1), 3);
        x.player(0, 5, 2);
        due("1's SUM 2 is still above", x.rest(0, 0, 1), 4);
    }

    // ---- 8: rest: "NONE: none such."

    private static void promise08NoSuchContest() {
        HoldOuts x = two(5, 1, 6, 1, Edges.PENNIES);
        due("contest -1", x.rest(-1, 0, 0), -1);
        due("contest 0", x.rest(0, 0, 0), 2);
        due("contest 1", x.rest(1, 0, 0), -1);
        for (int far : Edges.FAR) {
            due("contest " + far, x.rest(far, 0, 0), -1);
        }
    }

    private static void promise08NoSuchRest() {
        HoldOuts x = two(5, 7, 6, 7, SAME);
        due("REST -1", x.rest(0, -1, 1), -1);
        due("REST 0", x.rest(0, 0, 1), 1);
        due("REST 91", x.rest(0, 91, 1), 224);
        due("REST 92", x.rest(0, 92, 1), -1);
        for (int far : Edges.FAR) {
            due("REST " + far, x.rest(0, far, 1), -1);
        }
    }

    private static void promise08NoRestAtAll() {
        HoldOuts x = two(5, 3, 6, 3, Edges.PENNIES);
        for (int what = 0; what < 28; what++) {
            due("what " + what, x.rest(0, 0, what), -1);
        }
    }

    /** All from below 0 to 40: what isn't told of any REST is none such. */
    private static void promise08NoSuchWhat() {
        HoldOuts x = two(5, 1, 6, 1, Edges.PENNIES);
        for (int what = -40; what <= 40; what++) {
            boolean isTold = what >= 0 && what <= 4 || what >= 10 && what <= 17 || what >= 20 && what <= 27;
            due("whether what " + what + " is told", x.rest(0, 0, what) == -1 ? 0 : 1, isTold ? 1 : 0);
        }
        for (int far : Edges.FAR) {
            due("what " + far, x.rest(0, 0, far), -1);
        }
    }

    private static void promise08TheLastSum() {
        HoldOuts x = two(5, 7, 6, 7, "tie mine;win mine;lose mine;");
        due("rests", x.rests(0), 1);
        due("0's CHANCE of 7", x.rest(0, 0, 17), 1);
        due("1's CHANCE of 7", x.rest(0, 0, 27), 1);
        due("0's CHANCE of 0", x.rest(0, 0, 10), 0);
        due("1's CHANCE of 0", x.rest(0, 0, 20), 0);
    }

    /** "together 1", "all above 0", and none for what isn't in the set. */
    private static void promise08EachChance() {
        HoldOuts x = two(5, 2, 6, 2, "tie mine+1;");
        due("rests", x.rests(0), 7);
        for (int r = 0; r < 7; r++) {
            for (int who = 0; who < 2; who++) {
                long bits = x.rest(0, r, 1 + who);
                long all = 0;
                for (int sum = 0; sum < 8; sum++) {
                    long chance = x.rest(0, r, 10 + 10 * who + sum);
                    all += chance;
                    due("whether it's in the set", chance > 0 ? 1 : 0, bits >> sum & 1);
                }
                due("all CHANCES", all, x.rest(0, r, 3 + who));
            }
        }
    }

    /** A SUM that isn't in the set, or above the PURSE, has the CHANCE 0. */
    private static void promise08ChanceOfOtherSums() {
        HoldOuts x = two(5, 0, 6, 1, "win 0-1;");
        due("rests", x.rests(0), 1);
        due("0's CHANCE of 7", x.rest(0, 0, 17), 0);
        due("1's CHANCE of 1", x.rest(0, 0, 21), 0);
        due("1's CHANCE of 7", x.rest(0, 0, 27), 0);
    }

    /** "told as whole numbers by one whole number above 0, all together as small as they can be" */
    private static void promise08AsSmallAsCanBe() {
        HoldOuts x = two(5, 1, 6, 1, "tie 60-60*who;win 60*who;lose 60*who;", "tie 12*(2-mine);");
        due("rests", x.rests(0), 1);
        due("0's by", x.rest(0, 0, 3), 2);
        due("0's CHANCE", x.rest(0, 0, 10), 1);
        due("1's by", x.rest(0, 0, 4), 2);
        due("rests", x.rests(1), 3);
        due("thirds", x.rest(1, 2, 3), 3);
        due("a third", x.rest(1, 2, 10), 1);
        due("two thirds", x.rest(1, 2, 21), 2);
    }

    /** Each of both has their own whole number: 0's by what gets 1 the same, and 1's by what gets 0. */
    private static void promise08EachByTheirOwn() {
        HoldOuts x = two(5, 1, 6, 1, "tie 1 if who=0;tie 0-4*mine-1;");
        due("rests", x.rests(0), 1);
        due("0's by", x.rest(0, 0, 3), 6);
        due("1's by", x.rest(0, 0, 4), 2);
        due("0's CHANCE of 0", x.rest(0, 0, 10), 5);
        due("0's CHANCE of 1", x.rest(0, 0, 11), 1);
        due("1's CHANCE of 0", x.rest(0, 0, 20), 1);
    }

    /**
     * Three SUMS of each: 0 gets 1 -5 6, 4 3 -4 and -5 1 5, each 133 by 52, 63 and 66; 1 gets 1 -5 5, 4 3
     * -4 and -4 1 5, each 119 by 54, 45 and 58.
     */
    private static void promise08ChancesOfThree() {
        HoldOuts x = two(5, 2, 6, 2, "tie mine*2+1;win 7-mine*3 if mine-other=1;win 0-5+who;"
            + "lose 0-6+other if other-mine=1;lose 8-other-who;");
        due("rests", x.rests(0), 3);
        long[] zeros = {54, 45, 58};
        long[] ones = {52, 63, 66};
        for (int sum = 0; sum < 3; sum++) {
            due("0's CHANCE of " + sum, x.rest(0, 2, 10 + sum), zeros[sum]);
            due("1's CHANCE of " + sum, x.rest(0, 2, 20 + sum), ones[sum]);
        }
        due("0's by", x.rest(0, 2, 3), 157);
        due("1's by", x.rest(0, 2, 4), 181);
        due("0's MEAN", x.mean(0, 2, 0, false), 133);
        due("0's MEAN by", x.mean(0, 2, 0, true), 181);
        due("1's MEAN", x.mean(0, 2, 1, false), 119);
        due("1's MEAN by", x.mean(0, 2, 1, true), 157);
    }

    /** "RESTS stand by how many, then by 0's bits, then by 1's." */
    private static void promise08OrderByHowMany() {
        HoldOuts x = two(5, 2, 6, 2, SAME);
        int[] sets = {1, 2, 4, 3, 5, 6, 7};
        for (int r = 0; r < sets.length; r++) {
            due("0's set of " + r, x.rest(0, r, 1), sets[r]);
            due("1's set of " + r, x.rest(0, r, 2), sets[r]);
        }
    }

    private static void promise08OrderBy0sThenBy1s() {
        HoldOuts x = two(5, 7, 6, 7, "");
        for (int r = 0; r < 64; r++) {
            due("0's set of " + r, x.rest(0, r, 1), 1 << r / 8);
            due("1's set of " + r, x.rest(0, r, 2), 1 << r % 8);
        }
        int[][] sets = {{3, 3}, {3, 5}, {5, 3}, {5, 5}};
        HoldOuts y = two(5, 2, 6, 2, ALIKE);
        for (int r = 0; r < sets.length; r++) {
            due("0's set of " + r, y.rest(0, r, 1), sets[r][0]);
            due("1's set of " + r, y.rest(0, r, 2), sets[r][1]);
        }
    }

    // ---- 9: mean: "0: none such."

    private static void promise09NoneSuch() {
        HoldOuts x = two(5, 1, 6, 1, Edges.PENNIES);
        for (boolean lower : new boolean[] {false, true}) {
            due("contest -1", x.mean(-1, 0, 0, lower), 0);
            due("contest 1", x.mean(1, 0, 0, lower), 0);
            due("REST -1", x.mean(0, -1, 0, lower), 0);
            due("REST 1", x.mean(0, 1, 0, lower), 0);
            due("PLAYER -1", x.mean(0, 0, -1, lower), 0);
            due("PLAYER 2", x.mean(0, 0, 2, lower), 0);
            for (int far : Edges.FAR) {
                due("contest " + far, x.mean(far, 0, 0, lower), 0);
                due("REST " + far, x.mean(0, far, 0, lower), 0);
                due("PLAYER " + far, x.mean(0, 0, far, lower), 0);
            }
        }
    }

    private static void meanIs(HoldOuts x, int who, long upper, long lower) {
        due("upper of " + who, x.mean(0, 0, who, false), upper);
        due("lower of " + who, x.mean(0, 0, who, true), lower);
    }

    private static void promise09AFraction() {
        HoldOuts x = two(5, 1, 6, 1, "tie 3-3*who;win 5*who;lose 5*who;");
        meanIs(x, 0, 3, 2);
        meanIs(x, 1, 5, 2);
    }

    /** "the lower one above 0" */
    private static void promise09BelowZero() {
        HoldOuts x = two(5, 1, 6, 1, BELOW);
        meanIs(x, 0, -3, 2);
        meanIs(x, 1, -3, 2);
    }

    private static void promise09Zero() {
        HoldOuts x = two(5, 1, 6, 1, "tie 1-2*who;win 2*who-1;lose 2*who-1;");
        due("how many", x.rest(0, 0, 0), 2);
        meanIs(x, 0, 0, 1);
        meanIs(x, 1, 0, 1);
    }

    /** "as small as it can be" */
    private static void promise09AsSmallAsCanBe() {
        HoldOuts x = two(5, 1, 6, 1, "tie 6-6*who;win 4*who;lose 4*who;");
        meanIs(x, 0, 3, 1);
        meanIs(x, 1, 2, 1);
    }

    private static void promise09OneSurely() {
        HoldOuts x = two(5, 0, 6, 0, "tie 9999-19998*who;");
        meanIs(x, 0, 9_999, 1);
        meanIs(x, 1, -9_999, 1);
    }

    // ---- 10: lost: "NONE: none such."

    private static void promise10NoneSuch() {
        HoldOuts x = two(5, 1, 6, 1, Edges.PENNIES);
        due("contest -1", x.lost(-1, 0), -1);
        due("contest 1", x.lost(1, 0), -1);
        due("REST -1", x.lost(0, -1), -1);
        due("REST 1", x.lost(0, 1), -1);
        for (int far : Edges.FAR) {
            due("contest " + far, x.lost(far, 0), -1);
            due("REST " + far, x.lost(0, far), -1);
        }
    }

    private static void promise10Least() {
        due("both put in 0", two(5, 0, 6, 0, "").lost(0, 0), 0);
    }

    private static void promise10Most() {
        HoldOuts x = two(5, 7, 6, 7, "tie mine;win mine;lose mine;");
        due("rests", x.rests(0), 1);
        due("both put in 7", x.lost(0, 0), 14_000_000);
    }

    /** "of each of both the SUM in the mean, in millionths (cut), together": 7 of 11, twice cut. */
    private static void promise10EachIsCut() {
        HoldOuts x = two(0, 2, 0, 2, "tie mine+1;");
        due("by", x.rest(0, 6, 3), 11);
        due("7 of 11 and 7 of 11", x.lost(0, 6), 636_363 + 636_363);
        HoldOuts y = two(5, 1, 6, 1, ONE_OF_THREE);
        due("2 of 3 and 2 of 3", y.lost(0, 2), 666_666 + 666_666);
    }

    /** What is cut is the mean, not each CHANCE: 1 and 2 by thirds are 1, not 999,999 millionths. */
    private static void promise10TheMeanIsCut() {
        due("thirds", two(5, 2, 6, 2, Edges.THIRDS).lost(0, 0), 2_000_000);
    }

    private static void promise10OfEach() {
        HoldOuts x = two(5, 3, 6, 5, "tie mine;win mine;lose mine;");
        due("3 and 5", x.lost(0, 0), 8_000_000);
    }

    // ---- 11: wrong: "NONE: none such."

    private static void promise11NoneSuch() {
        HoldOuts x = two(5, 1, 6, 1, Edges.PENNIES);
        due("contest -1", x.wrong(-1, 0), -1);
        due("contest 1", x.wrong(1, 0), -1);
        due("REST -1", x.wrong(0, -1), -1);
        due("REST 1", x.wrong(0, 1), -1);
        for (int far : Edges.FAR) {
            due("contest " + far, x.wrong(far, 0), -1);
            due("REST " + far, x.wrong(0, far), -1);
        }
    }

    private static void promise11NoneSuchWhereTheyAreAlike() {
        HoldOuts x = two(5, 1, 5, 1, Edges.PENNIES);
        due("REST 1", x.wrong(0, 1), -1);
        due("contest 1", x.wrong(1, 0), -1);
    }

    /** "none, if they're alike: 0" */
    private static void promise11Alike() {
        due("halves", two(5, 1, 5, 1, Edges.PENNIES).wrong(0, 0), 0);
        due("one wins surely", two(5, 1, 5, 0, "win 1;").wrong(0, 0), 0);
    }

    /** A WORTH more or less by one is not alike. */
    private static void promise11NotAlike() {
        HoldOuts x = two(5, 1, 6, 0, "win 1;");
        due("0, of less, has it", x.wrong(0, 0), 1_000_000);
        x.player(0, 7, 1);
        due("1, of less, hasn't", x.wrong(0, 0), 0);
        HoldOuts y = two(5, 0, 6, 1, "win 1;");
        due("1, of more, has it", y.wrong(0, 0), 0);
        y.player(0, 7, 0);
        due("1, of less, has it", y.wrong(0, 0), 1_000_000);
    }

    /** "half of them for ties" */
    private static void promise11Ties() {
        HoldOuts x = two(5, 0, 6, 0, "");
        due("0 of less", x.wrong(0, 0), 500_000);
        x.player(0, 7, 0);
        due("1 of less", x.wrong(0, 0), 500_000);
    }

    /** "each CHANCE in millionths (cut)": of 333,333 and 666,666 the half is 499,999,000,000.5 by products. */
    private static void promise11EachChanceIsCut() {
        HoldOuts x = two(5, 1, 6, 1, ONE_OF_THREE);
        due("how many", x.rest(0, 2, 0), 2);
        due("the half", x.wrong(0, 2), 499_999);
        x.player(1, 4, 1);
        due("the half, 1 being the one of less", x.wrong(0, 2), 499_999);
    }

    /** "then by 1,000,000, cut": 0 has 5 of 6 for SUM 0, 1 has a half, so that 0 has it by 1/12 and half of a half. */
    private static void promise11AllIsCut() {
        HoldOuts x = two(5, 1, 6, 1, "tie 1 if who=0;tie 0-4*mine-1;");
        due("0's CHANCE of 0", x.rest(0, 0, 10), 5);
        // 166,666 by 500,000, and half of (833,333 and 166,666) by 500,000: 333,332.75 millionths.
        due("0 of less", x.wrong(0, 0), 333_332);
        x.player(1, 4, 1);
        // 500,000 by 833,333, and the same half: 666,666.25 millionths.
        due("1 of less", x.wrong(0, 0), 666_666);
    }

    /** "by 1,000,000, cut", one millionth of a millionth below 500,000, with half a one of the ties' cut. */
    private static void promise11CutJustBelow() {
        HoldOuts x = two(6, 1, 5, 1, "tie 194 if who=0 and mine=0;tie 495 if who=0;tie 0-223 if mine=0;tie 0-569;");
        due("how many", x.rests(0), 1);
        due("0's CHANCE of 0", x.rest(0, 0, 10), 569);
        due("by", x.rest(0, 0, 3), 792);
        due("1's CHANCE of 0", x.rest(0, 0, 20), 495);
        due("by", x.rest(0, 0, 4), 689);
        // 281,567 by 718,434, and half of (718,432 by 718,434 and 281,567 by 281,565): 499,999,999,999.5.
        due("1 of less", x.wrong(0, 0), 499_999);
    }

    /** Ties' products together are halved once, and cut: 333,333 thrice by thrice. */
    private static void promise11TiesTogether() {
        due("thirds", two(5, 2, 6, 2, SAME).wrong(0, 6), 499_999);
    }

    // ---- 12: least: "NONE: none has a REST, none such."

    private static void promise12NoContests() {
        due("least(0)", new HoldOuts().least(0), -1);
        due("least(1)", new HoldOuts().least(1), -1);
    }

    private static void promise12NoneHasARest() {
        HoldOuts x = two(5, 3, 6, 3, Edges.PENNIES, Edges.PENNIES);
        due("least(0)", x.least(0), -1);
        due("least(1)", x.least(1), -1);
    }

    private static void promise12NoSuchWhat() {
        HoldOuts x = two(5, 1, 6, 1, SAME);
        due("least(-1)", x.least(-1), -1);
        due("least(0)", x.least(0), 0);
        due("least(1)", x.least(1), 0);
        due("least(2)", x.least(2), -1);
        for (int far : Edges.FAR) {
            due("least(" + far + ")", x.least(far), -1);
        }
    }

    /** "those without REST left out" */
    private static void promise12WithoutRest() {
        HoldOuts x = two(5, 3, 6, 3, Edges.PENNIES, "tie mine;win mine;lose mine;", Edges.PENNIES);
        due("least(0)", x.least(0), 1);
        due("least(1)", x.least(1), 1);
    }

    /** "of several the least" */
    private static void promise12OfSeveral() {
        HoldOuts x = two(5, 1, 6, 1, "tie mine;win mine;lose mine;", "", SAME, "");
        due("least(0)", x.least(0), 1);
        due("least(1), all by halves", x.least(1), 0);
    }

    /** The last of eight can be the one. */
    private static void promise12TheLast() {
        String most = "tie mine;win mine;lose mine;";
        HoldOuts x = two(5, 1, 6, 1, most, most, most, most, most, most, most, "");
        due("least(0)", x.least(0), 7);
    }

    /** "the one of which the first REST has the least": later ones aren't asked. */
    private static void promise12TheFirstRest() {
        // In the first contest 0 and 1 put in 0 and 1, or 1 and 0; in the second 0 puts in 1 alone.
        HoldOuts x = two(5, 1, 6, 1, "win 1;lose 1;", "win 1 if who=0;tie 0-1;win 0-2;");
        due("rests of the first", x.rests(0), 3);
        due("1, of more, has it first", x.wrong(0, 0), 0);
        due("0, of less, has it then", x.wrong(0, 1), 1_000_000);
        due("least(1)", x.least(1), 0);
        x.player(0, 7, 1);
        due("1, of less, has it first", x.wrong(0, 0), 1_000_000);
        due("0, of more, has it then", x.wrong(0, 1), 0);
        due("in the other one", x.wrong(1, 0), 0);
        due("least(1)", x.least(1), 1);
    }

    private static void promise12LostOrWrong() {
        // Of less WORTH is 0: it has the first for nothing by half, never the second, for 1.
        HoldOuts x = two(5, 0, 6, 1, "lose 0-1;win 0-1;", "win 1;");
        due("lost of the first", x.lost(0, 0), 0);
        due("lost of the second", x.lost(1, 0), 1_000_000);
        due("least(0)", x.least(0), 0);
        due("least(1)", x.least(1), 1);
    }

    // ---- 13: offer: "-10,000: none such."

    private static void promise13NoneSuch() {
        HoldOuts x = two(5, 1, 6, 1, Edges.PENNIES);
        int[][] none = {{-1, 0, 0}, {1, 0, 0}, {0, -1, 0}, {0, 1, 0}, {0, 0, -1}, {0, 0, 2}};
        for (int[] n : none) {
            due("offer(" + n[0] + ", " + n[1] + ", " + n[2] + ")", x.offer(n[0], n[1], n[2]), -10_000);
        }
        for (int far : Edges.FAR) {
            due("contest " + far, x.offer(far, 0, 0), -10_000);
            due("REST " + far, x.offer(0, far, 0), -10_000);
            due("PLAYER " + far, x.offer(0, 0, far), -10_000);
        }
        due("no REST at all", two(5, 3, 6, 3, Edges.PENNIES).offer(0, 0, 0), -10_000);
    }

    private static void offerIs(String text, int offer0, int offer1) {
        HoldOuts x = two(5, 1, 6, 1, text);
        due("offer for 0 in " + text, x.offer(0, 0, 0), offer0);
        due("offer for 1 in " + text, x.offer(0, 0, 1), offer1);
    }

    /** "the least whole number not below MEAN": halves of 1, 3, -1 and -3. */
    private static void promise13Fractions() {
        offerIs("tie 1-who;win 3*who;lose 3*who;", 1, 2);
        offerIs("tie 0-who;win 3*who-3;lose 3*who-3;", -1, 0);
    }

    private static void promise13WholeNumbers() {
        offerIs("tie 4-4*who;win 6*who;lose 6*who;", 2, 3);
        offerIs("tie 0-4*who;win 6*who-6;lose 6*who-6;", -3, -2);
        offerIs("tie 1-2*who;win 2*who-1;lose 2*who-1;", 0, 0);
    }

    private static void promise13MostAndLeast() {
        offerIs("tie 9999-19998*who;win 9999-19998*who;lose 9999-19998*who;", 9_999, -9_999);
    }

    // ---- 14: edge: "NONE: none, none such (WORTH stays up to 999)."

    private static void promise14NoneSuch() {
        HoldOuts x = two(9, 1, 0, 0, "win worth;tie 20;");
        due("contest -1", x.edge(-1, 0), -1);
        due("contest 0", x.edge(0, 0), 20);
        due("contest 1", x.edge(1, 0), -1);
        due("PLAYER -1", x.edge(0, -1), -1);
        due("PLAYER 2", x.edge(0, 2), -1);
        for (int far : Edges.FAR) {
            due("contest " + far, x.edge(far, 0), -1);
            due("PLAYER " + far, x.edge(0, far), -1);
        }
    }

    /** "above that now": what WORTH does now is no EDGE. */
    private static void promise14AboveThatNow() {
        HoldOuts x = two(19, 1, 0, 0, "win worth;tie 20;");
        due("one below", x.edge(0, 0), 20);
        x.player(0, 20, 1);
        due("there", x.edge(0, 0), 21);
        x.player(0, 21, 1);
        due("behind", x.edge(0, 0), -1);
    }

    /** "by at most 40" */
    private static void promise14By40() {
        HoldOuts x = two(9, 1, 0, 0, "win worth;tie 49;");
        due("by 40", x.edge(0, 0), 49);
        x.player(0, 8, 1);
        due("by 41", x.edge(0, 0), -1);
    }

    private static void promise14UpTo999() {
        HoldOuts x = two(998, 1, 0, 0, "win worth;tie 999;", "win worth;tie 1000;");
        due("999", x.edge(0, 0), 999);
        due("1,000", x.edge(1, 0), -1);
        x.player(0, 960, 1);
        due("999 by 39", x.edge(0, 0), 999);
        due("1,000 by 40", x.edge(1, 0), -1);
        x.player(0, 999, 1);
        due("from 999 on", x.edge(0, 0), -1);
    }

    private static void promise14Of1() {
        HoldOuts x = two(0, 0, 9, 1, "win worth if who=1;tie 49;");
        due("by 40", x.edge(0, 1), 49);
        due("of 0 there's none", x.edge(0, 0), -1);
        x.player(1, 998, 1);
        due("behind", x.edge(0, 1), -1);
    }

    /** "not as many RESTS": more, and fewer. */
    private static void promise14MoreOrFewer() {
        HoldOuts x = two(3, 1, 0, 0, "tie 5;win 5 if worth>6;", "tie 5;win 5 if worth<7;");
        due("more", x.edge(0, 0), 7);
        due("fewer", x.edge(1, 0), 7);
    }

    private static void promise14FromNoneToSome() {
        HoldOuts x = two(3, 3, 0, 3, "win 5 if worth>9 and who=0 and mine=3;" + Edges.PENNIES);
        due("none", x.rests(0), 0);
        due("edge", x.edge(0, 0), 10);
        due("none for 1", x.edge(0, 1), -1);
    }

    /** No REST now, and none with any WORTH, though there was one with lesser PURSES. */
    private static void promise14NoneThroughout() {
        HoldOuts x = two(5, 1, 6, 1, "tie worth if who=0;win who;lose who;");
        due("rests with PURSES of 1", x.rests(0), 1);
        x.player(0, 5, 3);
        x.player(1, 6, 3);
        due("rests with PURSES of 3", x.rests(0), 0);
        due("edge with PURSES of 3", x.edge(0, 0), -1);
    }

    /** All but WORTH stays as it is: the PURSE, and the PLAYER's number. */
    private static void promise14OnlyWorth() {
        HoldOuts x = two(9, 2, 9, 2, "win worth if mine=purse and purse=2 and who=1;tie 20 if who=1;");
        due("edge of 1", x.edge(0, 1), 20);
        due("edge of 0", x.edge(0, 0), -1);
    }

    /** "or the first one has other sets": of 0, or of 1. */
    private static void promise14OtherSets() {
        HoldOuts x = two(3, 1, 0, 0, "win worth*2;tie 13;");
        due("edge", x.edge(0, 0), 7);
        due("as many", x.rests(0), 1);
        HoldOuts y = two(0, 0, 3, 1, "win worth*2;tie 13;");
        due("edge", y.edge(0, 1), 7);
    }

    /** Only the first one counts: another's sets may change. */
    private static void promise14OtherSetsOfTheSecond() {
        HoldOuts x = two(8, 2, 0, 0, "tie 5;win 5 if mine=1 and worth<10;win 5 if mine=2 and worth>9;");
        due("edge", x.edge(0, 0), -1);
        due("the second's set", x.rest(0, 1, 1), 2);
        x.player(0, 10, 2);
        due("the second's set", x.rest(0, 1, 1), 4);
    }

    /** Other CHANCES of the same sets are no EDGE. */
    private static void promise14OtherChances() {
        HoldOuts x = two(3, 1, 5, 1, "tie worth if who=0 and mine=0;" + Edges.PENNIES);
        due("edge", x.edge(0, 0), -1);
        due("1's by", x.rest(0, 0, 4), 4);
        x.player(0, 4, 1);
        due("1's by", x.rest(0, 0, 4), 5);
    }

    private static void promise14ChangesNothing() {
        HoldOuts x = two(9, 1, 0, 0, "win worth;tie 20;", "win worth;tie 60;");
        x.sure(0, 1);
        x.answer(1);
        String before = Edges.stateOf(x);
        due("an EDGE", x.edge(0, 0), 20);
        Edges.same("edge(0, 0)", Edges.stateOf(x), before);
        due("none", x.edge(1, 0), -1);
        Edges.same("edge(1, 0)", Edges.stateOf(x), before);
        due("none for 1", x.edge(0, 1), -1);
        Edges.same("edge(0, 1)", Edges.stateOf(x), before);
        due("once more", x.edge(0, 0), 20);
    }
}
