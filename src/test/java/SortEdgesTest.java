/** The edges that promises 23 to 26 name: SORTS of two, and rows of three. */
public final class SortEdgesTest {
    // Each wants to put in their WORTH, whatever the other one does.
    private static final String AS_WORTH = "tie 1 if mine=worth;win 1 if mine=worth;lose 1 if mine=worth;";

    public static void main(String[] args) throws ReflectiveOperationException {
        Edges.runAll(SortEdgesTest.class, 23, 26);
    }

    private static void due(String call, long got, long want) {
        Edges.due(call, got, want);
    }

    private static HoldOuts two(int worth0, int purse0, int worth1, int purse1, String... texts) {
        return Edges.two(worth0, purse0, worth1, purse1, texts);
    }

    // ---- 23: sort: "NONE, doing nothing: not as told (parts 0 to 1,000), 3 are there."

    private static void sortRefused(int who, int worth, int parts) {
        Edges.refused("sort(" + who + ", " + worth + ", " + parts + ")", x -> x.sort(who, worth, parts), -1);
    }

    private static void promise23NotPlayer0Or1() {
        sortRefused(-1, 5, 100);
        sortRefused(2, 5, 100);
    }

    private static void promise23WorthTooSmall() {
        sortRefused(0, -1, 100);
        sortRefused(1, -1, 100);
    }

    private static void promise23WorthTooLarge() {
        sortRefused(0, 1_000, 100);
        sortRefused(1, 1_000, 100);
    }

    private static void promise23PartsTooSmall() {
        sortRefused(0, 5, -1);
        sortRefused(1, 5, -1);
    }

    private static void promise23PartsTooLarge() {
        sortRefused(0, 5, 1_001);
        sortRefused(1, 5, 1_001);
    }

    private static void promise23FarRefused() {
        for (int far : Edges.FAR) {
            sortRefused(far, 5, 100);
            sortRefused(0, far, 100);
            sortRefused(0, 5, far);
        }
    }

    private static void promise23LeastAndMost() {
        HoldOuts x = two(5, 1, 6, 0, "win 1 if worth=999;win 0-1;", "win 1 if worth=0;win 0-1;");
        due("the least WORTH, the most parts", x.sort(0, 0, 1_000), 0);
        due("the most WORTH, the least parts", x.sort(0, 999, 0), 1);
        due("the other's", x.sort(1, 3, 1_000), 0);
        due("as of WORTH 999", x.sorted(0, 0, 0), 4);
        due("as of WORTH 0", x.sorted(1, 0, 0), 1);
    }

    private static void promise23ThreeAreThere() {
        HoldOuts x = two(5, 3, 6, 3, AS_WORTH);
        for (int i = 0; i < 3; i++) {
            due("0's number " + i, x.sort(0, i + 1, i == 0 ? 1_000 : 0), i);
        }
        due("1's first", x.sort(1, 2, 1_000), 0);
        String before = Edges.stateOf(x);
        due("0's fourth", x.sort(0, 0, 0), -1);
        Edges.same("the fourth", Edges.stateOf(x), before);
        due("as before", x.sorted(0, 0, 0), 1 + 2 * 4 + 3 * 16);
    }

    private static void promise23ThreeOfEach() {
        HoldOuts x = new HoldOuts();
        for (int i = 0; i < 3; i++) {
            due("0's number " + i, x.sort(0, 5, 5), i);
            due("1's number " + i, x.sort(1, 5, 5), i);
        }
        due("0's fourth", x.sort(0, 5, 5), -1);
        due("1's fourth", x.sort(1, 5, 5), -1);
        due("0's", x.count(3), 3);
        due("1's", x.count(4), 3);
    }

    private static void promise23NumbersBeginAnewBehindForget() {
        HoldOuts x = new HoldOuts();
        for (int i = 0; i < 3; i++) {
            x.sort(0, 5, 5);
        }
        x.forget();
        for (int i = 0; i < 3; i++) {
            due("0's number " + i, x.sort(0, 5, 5), i);
        }
        due("0's fourth", x.sort(0, 5, 5), -1);
    }

    // ---- 24: sorted: "NONE: none such."

    private static void sortAll(HoldOuts x, int who, int... worthsAndParts) {
        for (int i = 0; i + 1 < worthsAndParts.length; i += 2) {
            due("sort", x.sort(who, worthsAndParts[i], worthsAndParts[i + 1]), i / 2);
        }
    }

    private static void rowIs(HoldOuts x, int k, int code0, int code1, int rise0, int rise1) {
        due("0's code of row " + k, x.sorted(0, k, 0), code0);
        due("1's code of row " + k, x.sorted(0, k, 1), code1);
        due("0's RISE in row " + k, x.sorted(0, k, 2), rise0);
        due("1's RISE in row " + k, x.sorted(0, k, 3), rise1);
    }

    private static void noRow(HoldOuts x, int k) {
        rowIs(x, k, -1, -1, -1, -1);
    }

    private static HoldOuts oneRow() {
        HoldOuts x = two(0, 0, 0, 0, "");
        sortAll(x, 0, 5, 1_000);
        sortAll(x, 1, 6, 1_000);
        return x;
    }

    private static void promise24NoSuchContest() {
        HoldOuts x = oneRow();
        due("contest -1", x.sorted(-1, 0, 0), -1);
        due("contest 0", x.sorted(0, 0, 0), 0);
        due("contest 1", x.sorted(1, 0, 0), -1);
        for (int far : Edges.FAR) {
            due("contest " + far, x.sorted(far, 0, 0), -1);
        }
    }

    private static void promise24NoSuchRow() {
        HoldOuts x = oneRow();
        noRow(x, -1);
        rowIs(x, 0, 0, 0, 1, 1);
        noRow(x, 1);
        for (int far : Edges.FAR) {
            noRow(x, far);
        }
    }

    private static void promise24NoSuchWhat() {
        HoldOuts x = oneRow();
        due("what -1", x.sorted(0, 0, -1), -1);
        due("what 4", x.sorted(0, 0, 4), -1);
        due("what -2", x.sorted(0, 0, -2), -1);
        for (int far : Edges.FAR) {
            due("what " + far, x.sorted(0, 0, far), -1);
        }
    }

    private static void promise24NoSortsOfOne() {
        HoldOuts x = two(0, 0, 0, 0, "");
        noRow(x, 0);
        sortAll(x, 0, 5, 1_000);
        noRow(x, 0);
        x.forget();
        sortAll(x, 1, 5, 1_000);
        noRow(x, 0);
    }

    /** "together 1,000 for each, else none is at rest" */
    private static void promise24PartsTogether() {
        for (int who = 0; who < 2; who++) {
            HoldOuts x = two(0, 0, 0, 0, "");
            sortAll(x, 1 - who, 5, 1_000);
            sortAll(x, who, 5, 999);
            noRow(x, 0);
            x.sort(who, 6, 1);
            rowIs(x, 0, 0, 0, 1, 1);
            x.sort(who, 7, 1);
            noRow(x, 0);
        }
    }

    private static void promise24PartsOfThreeTogether() {
        HoldOuts x = two(0, 0, 0, 0, "");
        sortAll(x, 0, 5, 333, 6, 333, 7, 334);
        sortAll(x, 1, 5, 0, 6, 1_000, 7, 0);
        rowIs(x, 0, 0, 0, 1, 1);
        noRow(x, 1);
    }

    /** "a SUM (0 to 3, up to the PURSE)": with no statement each row is at rest. */
    private static void promise24SumsUpToThreeAndThePurse() {
        HoldOuts x = two(0, 0, 0, 0, "");
        sortAll(x, 0, 5, 1_000);
        sortAll(x, 1, 6, 1_000);
        for (int purse0 = 0; purse0 < 8; purse0++) {
            for (int purse1 = 0; purse1 < 8; purse1++) {
                x.player(0, 0, purse0);
                x.player(1, 0, purse1);
                int most0 = Math.min(3, purse0);
                int most1 = Math.min(3, purse1);
                int rows = (most0 + 1) * (most1 + 1);
                due("the last, 0's", x.sorted(0, rows - 1, 0), most0);
                due("the last, 1's", x.sorted(0, rows - 1, 1), most1);
                due("one behind the last", x.sorted(0, rows, 0), -1);
            }
        }
    }

    /** As many rows as there can be, by 0's code, then by 1's. */
    private static void promise24AllRows() {
        HoldOuts x = two(0, 7, 0, 7, "");
        sortAll(x, 0, 5, 333, 6, 333, 7, 334);
        sortAll(x, 1, 5, 333, 6, 333, 7, 334);
        for (int k = 0; k < 4_096; k += 65 * 3) {
            due("0's code of " + k, x.sorted(0, k, 0), k / 64);
            due("1's code of " + k, x.sorted(0, k, 1), k % 64);
        }
        due("0's code of the last", x.sorted(0, 4_095, 0), 63);
        due("1's code of the last", x.sorted(0, 4_095, 1), 63);
        noRow(x, 4_096);
    }

    /** Codes of SORTS that aren't there have no SUM. */
    private static void promise24AllRowsOfTwo() {
        HoldOuts x = two(0, 7, 0, 7, "");
        sortAll(x, 0, 5, 500, 6, 500);
        sortAll(x, 1, 5, 1_000);
        due("0's code of the last", x.sorted(0, 63, 0), 15);
        due("1's code of the last", x.sorted(0, 63, 1), 3);
        noRow(x, 64);
    }

    /** "the sum of the SUM of the k-th SORT times 4 to the k-th" */
    private static void promise24Codes() {
        HoldOuts x = two(9, 3, 9, 3, AS_WORTH);
        sortAll(x, 0, 1, 333, 2, 333, 3, 334);
        sortAll(x, 1, 3, 333, 0, 333, 2, 334);
        rowIs(x, 0, 1 + 2 * 4 + 3 * 16, 3 + 2 * 16, 1, 1);
        noRow(x, 1);
    }

    /** "whether each SORT of more WORTH puts at least as much as each of less" */
    private static void promise24Rise() {
        HoldOuts x = two(0, 1, 0, 0, "");
        sortAll(x, 0, 5, 500, 6, 500);
        sortAll(x, 1, 5, 1_000);
        rowIs(x, 0, 0, 0, 1, 1);
        rowIs(x, 1, 1, 0, 0, 1);
        rowIs(x, 2, 4, 0, 1, 1);
        rowIs(x, 3, 5, 0, 1, 1);
        noRow(x, 4);
    }

    private static void promise24RiseOf1() {
        HoldOuts x = two(0, 0, 0, 1, "");
        sortAll(x, 0, 5, 1_000);
        sortAll(x, 1, 6, 500, 5, 500);
        rowIs(x, 0, 0, 0, 1, 1);
        rowIs(x, 1, 0, 1, 1, 1);
        rowIs(x, 2, 0, 4, 1, 0);
        rowIs(x, 3, 0, 5, 1, 1);
    }

    /** Of three the first and the last are held against each other, too. */
    private static void promise24RiseOfThree() {
        HoldOuts x = two(0, 1, 0, 0, "");
        sortAll(x, 0, 7, 333, 7, 333, 5, 334);
        sortAll(x, 1, 5, 1_000);
        int[] rises = {1, 1, 1, 1, 0, 0, 0, 1};
        int[] codes = {0, 1, 4, 5, 16, 17, 20, 21};
        for (int k = 0; k < 8; k++) {
            rowIs(x, k, codes[k], 0, rises[k], 1);
        }
    }

    /** SORTS alike in WORTH rise, whatever they put in. */
    private static void promise24RiseOfAlike() {
        HoldOuts x = two(0, 1, 0, 0, "");
        sortAll(x, 0, 5, 500, 5, 500);
        sortAll(x, 1, 5, 1_000);
        rowIs(x, 1, 1, 0, 1, 1);
        rowIs(x, 2, 4, 0, 1, 1);
    }

    private static void promise24FallingSorts() {
        HoldOuts x = two(9, 3, 9, 3, "tie 1 if mine=3-worth;win 1 if mine=3-worth;lose 1 if mine=3-worth;");
        sortAll(x, 0, 1, 500, 2, 500);
        sortAll(x, 1, 3, 500, 3, 500);
        rowIs(x, 0, 2 + 4, 0, 0, 1);
        noRow(x, 1);
    }

    // 0 wants to put in the same as 1, who puts in their WORTH.
    private static final String FOLLOWS =
        "tie 5 if who=0;win 1 if who=1 and mine=worth;lose 1 if who=1 and mine=worth;tie 1 if mine=worth;";

    /** "gets more in the mean", "by parts of the other's SORTS": one part more or less turns it. */
    private static void promise24ByParts() {
        int[][] parts = {{501, 499, 0}, {499, 501, 1}};
        for (int[] p : parts) {
            HoldOuts x = two(0, 1, 0, 1, FOLLOWS);
            sortAll(x, 0, 0, 1_000);
            sortAll(x, 1, 0, p[0], 1, p[1]);
            rowIs(x, 0, p[2], 4, 1, 1);
            noRow(x, 1);
        }
    }

    /** As much by another SUM is not more. */
    private static void promise24AsMuchIsNotMore() {
        HoldOuts x = two(0, 1, 0, 1, FOLLOWS);
        sortAll(x, 0, 0, 1_000);
        sortAll(x, 1, 0, 500, 1, 500);
        rowIs(x, 0, 0, 4, 1, 1);
        rowIs(x, 1, 1, 4, 1, 1);
        noRow(x, 2);
    }

    /** A SORT of no parts weighs nothing for the other one, but is to get most itself. */
    private static void promise24SortOfNoParts() {
        HoldOuts x = two(0, 1, 0, 1, FOLLOWS);
        sortAll(x, 0, 0, 1_000);
        sortAll(x, 1, 0, 1_000, 1, 0);
        rowIs(x, 0, 0, 4, 1, 1);
        noRow(x, 1);
    }

    /** Who loses is asked, too: 0 gets most by putting in less than 1. */
    private static void promise24Losing() {
        HoldOuts x = two(0, 1, 0, 1, "lose 5 if who=0;win 5 if who=1;win 0-1;");
        sortAll(x, 0, 7, 1_000);
        sortAll(x, 1, 7, 1_000);
        rowIs(x, 0, 0, 1, 1, 1);
        noRow(x, 1);
        HoldOuts y = two(0, 1, 0, 1, "lose 5 if who=1;win 5 if who=0;win 0-1;");
        sortAll(y, 0, 7, 1_000);
        sortAll(y, 1, 7, 1_000);
        rowIs(y, 0, 1, 0, 1, 1);
        noRow(y, 1);
    }

    /** Only WORTH is the SORT's: the PURSE and the number are the PLAYER's. */
    private static void promise24AskedOfASort() {
        HoldOuts x = two(50, 3, 60, 2, "win worth if mine=purse and who=0;win 0-worth if who=1;tie 0-1;"
            + "lose 1 if who=1;");
        sortAll(x, 0, 7, 1_000);
        sortAll(x, 1, 8, 1_000);
        rowIs(x, 0, 3, 0, 1, 1);
        rowIs(x, 1, 3, 1, 1, 1);
        rowIs(x, 2, 3, 2, 1, 1);
        noRow(x, 3);
    }

    private static void promise24NoneAtRest() {
        HoldOuts x = two(0, 1, 0, 1, Edges.PENNIES);
        sortAll(x, 0, 5, 1_000);
        sortAll(x, 1, 5, 1_000);
        noRow(x, 0);
    }

    /** What gets more above the PURSE, or above 3, turns nothing. */
    private static void promise24MoreAboveThePurse() {
        HoldOuts x = two(0, 2, 0, 7, "win mine;tie mine;lose mine;win 9;");
        sortAll(x, 0, 5, 1_000);
        sortAll(x, 1, 5, 1_000);
        rowIs(x, 0, 2, 3, 1, 1);
        noRow(x, 1);
    }

    // ---- 25: three: "NONE: none such."

    private static HoldOuts trio(String text, int... worthsAndPurses) {
        HoldOuts x = Texts.with(text);
        for (int who = 0; who < 3; who++) {
            x.player(who, worthsAndPurses[2 * who], worthsAndPurses[2 * who + 1]);
        }
        return x;
    }

    private static void promise25NoSuchContest() {
        HoldOuts x = trio("", 0, 0, 0, 0, 0, 0);
        due("contest -1", x.three(-1, 0), -1);
        due("contest 0", x.three(0, 0), 0);
        due("contest 1", x.three(1, 0), -1);
        for (int far : Edges.FAR) {
            due("contest " + far, x.three(far, 0), -1);
        }
    }

    private static void promise25NoSuchRow() {
        HoldOuts x = trio("", 0, 7, 0, 7, 0, 7);
        due("row -1", x.three(0, -1), -1);
        due("row 0", x.three(0, 0), 0);
        due("row 63", x.three(0, 63), 63);
        due("row 64", x.three(0, 64), -1);
        for (int far : Edges.FAR) {
            due("row " + far, x.three(0, far), -1);
        }
    }

    private static void promise25NoRow() {
        HoldOuts x = trio(Edges.PENNIES, 1, 1, 1, 1, 1, 0);
        due("row 0", x.three(0, 0), -1);
    }

    /** "SUMS (0 to 3, up to the PURSE)", "16, 4 and 1 times": the last row has the greatest of each. */
    private static void promise25SumsUpToThreeAndThePurse() {
        for (int code = 0; code < 512; code++) {
            int[] purses = {code / 64, code / 8 % 8, code % 8};
            int rows = 1;
            int last = 0;
            for (int purse : purses) {
                rows *= Math.min(3, purse) + 1;
                last = 4 * last + Math.min(3, purse);
            }
            HoldOuts x = trio("", 0, purses[0], 0, purses[1], 0, purses[2]);
            due("the last of PURSES " + code, x.three(0, rows - 1), last);
            due("one behind the last", x.three(0, rows), -1);
        }
    }

    private static void promise25EachTimes() {
        HoldOuts x = trio(AS_WORTH, 1, 3, 2, 3, 3, 3);
        due("1, 2 and 3", x.three(0, 0), 16 + 2 * 4 + 3);
        due("no other", x.three(0, 1), -1);
    }

    /** "each against the greater of both others'": who can be above it wants to. */
    private static void promise25TheGreaterOfBothOthers() {
        HoldOuts x = trio("win 9;", 9, 3, 9, 2, 9, 1);
        // 0 is above with 2 that 1 can't beat, or with 3; the others get nothing anyhow.
        int[] rows = {32, 33, 36, 37, 48, 49, 52, 53, 56, 57, -1};
        for (int k = 0; k < rows.length; k++) {
            due("row " + k, x.three(0, k), rows[k]);
        }
        HoldOuts y = trio("tie 9 if who=2;", 9, 0, 9, 1, 9, 1);
        due("2 does as 1", y.three(0, 0), 0);
        due("2 does as 1", y.three(0, 1), 5);
        due("no more", y.three(0, 2), -1);
        HoldOuts z = trio("tie 9 if who=2;", 9, 1, 9, 0, 9, 1);
        due("2 does as 0", z.three(0, 0), 0);
        due("2 does as 0", z.three(0, 1), 17);
        due("no more", z.three(0, 2), -1);
    }

    private static void promise25AsMuchIsNotMore() {
        HoldOuts x = trio("win 1;tie 1;", 0, 1, 0, 0, 0, 0);
        due("row 0", x.three(0, 0), 0);
        due("row 1", x.three(0, 1), 16);
        HoldOuts y = trio("win 2;tie 1;", 0, 1, 0, 0, 0, 0);
        due("row 0", y.three(0, 0), 16);
        due("row 1", y.three(0, 1), -1);
    }

    // ---- 26: idle: "NONE: no such CONTEST."

    private static void promise26NoSuchContest() {
        HoldOuts x = trio("", 0, 0, 0, 0, 0, 0);
        due("contest -1", x.idle(-1), -1);
        due("contest 0", x.idle(0), 7);
        due("contest 1", x.idle(1), -1);
        for (int far : Edges.FAR) {
            due("contest " + far, x.idle(far), -1);
        }
    }

    /** "0: there's no row" */
    private static void promise26NoRow() {
        due("no row", trio(Edges.PENNIES, 1, 1, 1, 1, 1, 0).idle(0), 0);
    }

    private static void promise26Nobody() {
        due("nobody", trio(AS_WORTH, 1, 3, 2, 3, 3, 3).idle(0), 0);
    }

    private static void promise26EachBit() {
        for (int bits = 0; bits < 8; bits++) {
            HoldOuts x = trio(AS_WORTH, 1 - (bits & 1), 3, 1 - (bits >> 1 & 1), 3, 1 - (bits >> 2), 3);
            due("those who put in 0", x.idle(0), bits);
        }
    }

    /** "of those who put 0 in all of them": one row with more is enough. */
    private static void promise26InAllOfThem() {
        due("0 has another row", trio("", 0, 1, 0, 0, 0, 0).idle(0), 6);
        due("1 has another row", trio("", 0, 0, 0, 1, 0, 0).idle(0), 5);
        due("2 has another row", trio("", 0, 0, 0, 0, 0, 1).idle(0), 3);
        due("all have", trio("", 0, 1, 0, 1, 0, 1).idle(0), 0);
    }
}
