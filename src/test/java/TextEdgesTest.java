/** The edges that promises 1 to 6 name: new objects, players, the tape, texts and what they tell. */
public final class TextEdgesTest {
    private static final String LONGEST = "win 1" + "+1".repeat(247) + ";";

    public static void main(String[] args) throws ReflectiveOperationException {
        Edges.runAll(TextEdgesTest.class, 1, 6);
    }

    private static void due(String call, long got, long want) {
        Edges.due(call, got, want);
    }

    private static void due(String call, boolean got, boolean want) {
        Edges.due(call, got, want);
    }

    // ---- 1: A new object: "No CONTESTS, WAYS, SORTS."

    private static void promise01NoContests() {
        HoldOuts x = new HoldOuts();
        due("count(0)", x.count(0), 0);
        due("rests(0)", x.rests(0), -1);
        due("gets(0, 0, 0, 0)", x.gets(0, 0, 0, 0), -10_000);
        due("least(0)", x.least(0), -1);
        due("count(1)", x.count(1), 0);
    }

    private static void promise01NoWays() {
        HoldOuts x = Texts.with(Edges.CLASSIC);
        due("way(0)", x.way(0), 0);
        due("way(1)", x.way(1), 0);
        due("part(0, 0, 0)", x.part(0, 0, 0), -1);
        due("count(5)", x.count(5), 0);
    }

    private static void promise01NoSorts() {
        HoldOuts x = Texts.with(Edges.CLASSIC);
        due("count(3)", x.count(3), 0);
        due("count(4)", x.count(4), 0);
        due("sorted(0, 0, 0)", x.sorted(0, 0, 0), -1);
        due("forget()", x.forget(), 0);
    }

    /** "a WORTH 0 to 999 (0 at first) and a PURSE 0 to 7 (7 at first)" */
    private static void promise01WorthAndPurseAtFirst() {
        HoldOuts x = Texts.with("tie worth*10+purse;");
        for (int who = 0; who < 3; who++) {
            due("count(" + (6 + who) + ")", x.count(6 + who), 0);
            due("count(" + (9 + who) + ")", x.count(9 + who), 7);
            due("gets of PLAYER " + who, x.gets(0, who, 1, 1), 7);
        }
    }

    private static void promise01NothingOnTheTape() {
        HoldOuts x = new HoldOuts();
        due("count(2)", x.count(2), 0);
        due("contest(1)", x.contest(1), -2);
        due("fault()", x.fault(), -1);
    }

    private static void promise01ObjectsStandApart() {
        HoldOuts x = new HoldOuts();
        String before = Edges.stateOf(x);
        Edges.busy();
        Edges.same("what another object was told", Edges.stateOf(x), before);
        Edges.same("what another object was told", Edges.stateOf(new HoldOuts()), before);
    }

    private static void promise01None() {
        due("NONE", HoldOuts.NONE, -1);
    }

    // ---- 2: player: "true; false, doing nothing: not as told."

    private static void playerRefused(int who, int worth, int purse) {
        Edges.refused("player(" + who + ", " + worth + ", " + purse + ")",
            x -> Edges.number(x.player(who, worth, purse)), 0);
    }

    private static void playerTaken(int who, int worth, int purse) {
        HoldOuts x = Texts.with("tie worth*10+purse;");
        due("player(" + who + ", " + worth + ", " + purse + ")", x.player(who, worth, purse), true);
        for (int other = 0; other < 3; other++) {
            due("WORTH of " + other, x.count(6 + other), other == who ? worth : 0);
            due("PURSE of " + other, x.count(9 + other), other == who ? purse : 7);
        }
        due("gets", x.gets(0, who, 1, 1), Math.min(9_999, worth * 10 + purse));
    }

    private static void promise02WhoTooSmall() {
        playerRefused(-1, 1, 1);
    }

    private static void promise02WhoTooLarge() {
        playerRefused(3, 1, 1);
    }

    private static void promise02EachPlayerTaken() {
        for (int who = 0; who < 3; who++) {
            playerTaken(who, 7 + who, 3 + who);
        }
    }

    private static void promise02WorthTooSmall() {
        for (int who = 0; who < 3; who++) {
            playerRefused(who, -1, 1);
        }
    }

    private static void promise02WorthTooLarge() {
        for (int who = 0; who < 3; who++) {
            playerRefused(who, 1_000, 1);
        }
    }

    private static void promise02LeastWorthTaken() {
        playerTaken(1, 0, 5);
    }

    private static void promise02MostWorthTaken() {
        playerTaken(0, 999, 5);
    }

    private static void promise02PurseTooSmall() {
        for (int who = 0; who < 3; who++) {
            playerRefused(who, 1, -1);
        }
    }

    private static void promise02PurseTooLarge() {
        for (int who = 0; who < 3; who++) {
            playerRefused(who, 1, 8);
        }
    }

    private static void promise02LeastPurseTaken() {
        playerTaken(2, 50, 0);
    }

    private static void promise02MostPurseTaken() {
        HoldOuts x = new HoldOuts();
        x.player(1, 50, 0);
        due("player(1, 50, 7)", x.player(1, 50, 7), true);
        due("count(10)", x.count(10), 7);
    }

    private static void promise02FarRefused() {
        for (int far : Edges.FAR) {
            playerRefused(far, 1, 1);
            playerRefused(0, far, 1);
            playerRefused(0, 1, far);
        }
    }

    private static void promise02ToldAgainFitsAllThatWasAsked() {
        HoldOuts x = Edges.two(0, 1, 0, 1, "win worth-3*mine;");
        due("rests", x.rests(0), 2);
        due("player", x.player(0, 3, 1), true);
        due("rests with another WORTH", x.rests(0), 3);
        due("player", x.player(1, 0, 0), true);
        due("rests with another PURSE", x.rests(0), 2);
        due("player", x.player(0, 4, 1), true);
        due("gets with another WORTH", x.gets(0, 0, 1, 0), 1);
        due("rests with a third WORTH", x.rests(0), 1);
    }

    // ---- 3: feed: "NONE, doing nothing: there would be more than 500."

    private static int bytes(String four) {
        return four.charAt(0) << 24 | four.charAt(1) << 16 | four.charAt(2) << 8 | four.charAt(3);
    }

    private static void promise03HighestByteFirst() {
        HoldOuts x = new HoldOuts();
        due("feed", x.feed(bytes("win "), bytes("12;l"), bytes("ose "), bytes("34;t"), bytes("ie 5")), 20);
        due("feed", x.feed(bytes("6;  "), bytes("    "), bytes("    "), bytes("    "), bytes("    ")), 40);
        due("contest(22)", x.contest(22), 0);
        due("win", x.gets(0, 0, 1, 0), 12);
        due("lose", x.gets(0, 0, 0, 1), 34);
        due("tie", x.gets(0, 0, 1, 1), 56);
    }

    /** A byte above 127 stays what it is, in each place of a number, and begins no token. */
    private static void promise03BytesAbove127() {
        for (int place = 0; place < 4; place++) {
            for (int high : new int[] {128, 160, 138, 255}) {
                HoldOuts x = new HoldOuts();
                int shift = 24 - 8 * place;
                x.feed(bytes("    ") & ~(255 << shift) | high << shift, 0, 0, 0, 0);
                due("contest(4) with byte " + high, x.contest(4), -1);
                due("fault()", x.fault(), place);
            }
        }
    }

    private static void promise03JustFull() {
        HoldOuts x = new HoldOuts();
        for (int i = 1; i <= 25; i++) {
            due("feed number " + i, x.feed(0, 0, 0, 0, 0), 20 * i);
        }
        due("count(2)", x.count(2), 500);
    }

    private static void promise03MoreThanFull() {
        HoldOuts x = new HoldOuts();
        feedAll(x, LONGEST);
        String before = Edges.stateOf(x);
        for (int i = 0; i < 3; i++) {
            due("feed above 500", x.feed(-1, -1, -1, -1, -1), -1);
        }
        Edges.same("feed", Edges.stateOf(x), before);
        due("contest(500)", x.contest(500), 0);
        due("gets", x.gets(0, 0, 1, 0), 248);
    }

    private static void feedAll(HoldOuts x, String text) {
        for (int from = 0; from < text.length(); from += 20) {
            int[] n = Texts.numbers(text, from);
            x.feed(n[0], n[1], n[2], n[3], n[4]);
        }
    }

    private static void promise03EmptyAgainBehindContest() {
        for (String text : new String[] {"win 1;", "win win"}) {
            HoldOuts x = new HoldOuts();
            Texts.tell(x, text);
            int[] n = Texts.numbers("tie 2;", 0);
            due("feed", x.feed(n[0], n[1], n[2], n[3], n[4]), 20);
            int told = x.contest(20);
            due("gets", x.gets(told, 0, 3, 3), 2);
        }
    }

    // ---- 4: contest

    private static void promise04LengthBelow0() {
        Edges.refused("contest(-1)", x -> x.contest(-1), -2);
        due("contest(-1) with nothing on the tape", new HoldOuts().contest(-1), -2);
    }

    private static void promise04LengthAboveWhatThereIs() {
        Edges.refused("contest(21)", x -> x.contest(21), -2);
        due("contest(1) with nothing on the tape", new HoldOuts().contest(1), -2);
    }

    private static void promise04FarLengths() {
        for (int far : Edges.FAR) {
            Edges.refused("contest(" + far + ")", x -> x.contest(far), -2);
        }
    }

    private static void promise04RefusedLengthLeavesTheBytes() {
        HoldOuts x = new HoldOuts();
        feedAll(x, "win 4;");
        x.contest(-1);
        x.contest(21);
        due("contest(6)", x.contest(6), 0);
        due("gets", x.gets(0, 0, 1, 0), 4);
    }

    private static void promise04LengthOfAllThereIs() {
        HoldOuts x = new HoldOuts();
        feedAll(x, "win 4;");
        due("contest(20)", x.contest(20), 0);
    }

    /** The 500 bytes that the tape can hold. */
    private static void promise04LengthOfAFullTape() {
        HoldOuts x = new HoldOuts();
        feedAll(x, LONGEST);
        due("contest(501)", x.contest(501), -2);
        due("contest(500)", x.contest(500), 0);
    }

    private static void promise04LengthOf0() {
        HoldOuts x = new HoldOuts();
        due("contest(0)", x.contest(0), 0);
        due("statements", x.count(1), 0);
        due("gets of no statement", x.gets(0, 0, 1, 0), 0);
        feedAll(x, "#");
        due("contest(0) with bytes on the tape", x.contest(0), 1);
        due("the tape is empty then", x.count(2), 0);
    }

    /** "The first n bytes of the tape (which is empty then)" */
    private static void promise04BytesBehindTheFirstAreGone() {
        HoldOuts x = new HoldOuts();
        feedAll(x, "win 12;win 34;#");
        due("contest(7)", x.contest(7), 0);
        due("statements", x.count(1), 1);
        due("the tape is empty then", x.count(2), 0);
        due("contest(1)", x.contest(1), -2);
    }

    /** A number goes on as long as the n bytes do. */
    private static void promise04ATokenEndsWithTheFirstBytes() {
        HoldOuts x = new HoldOuts();
        feedAll(x, "tie 1;win 123456");
        due("contest(15) of five digits", x.contest(15), -1);
        due("fault()", x.fault(), 15);
        feedAll(x, "tie 1;win 123456");
        due("contest(16) of six digits", x.contest(16), -1);
        due("fault()", x.fault(), 10);
    }

    private static void promise04FaultTellsNoContest() {
        HoldOuts x = Texts.with("win 5;tie 6;");
        due("contest with a FAULT", Texts.tell(x, "win 7;lose 8;tie 9;win"), -1);
        due("the tape is empty then", x.count(2), 0);
        due("CONTESTS", x.count(0), 1);
        due("statements of the last", x.count(1), 2);
        due("gets of the first", x.gets(0, 0, 1, 0), 5);
        due("gets of none", x.gets(1, 0, 1, 0), -10_000);
        due("the next number", Texts.tell(x, "win 8;"), 1);
    }

    private static void promise04TheEighth() {
        HoldOuts x = new HoldOuts();
        for (int i = 0; i < 8; i++) {
            due("contest number " + i, Texts.tell(x, "tie " + (10 + i) + ";"), i);
        }
        for (int i = 0; i < 8; i++) {
            due("gets of contest " + i, x.gets(i, 0, 1, 1), 10 + i);
        }
    }

    private static HoldOuts full() {
        return Texts.with("tie 1;", "tie 2;", "tie 3;", "tie 4;", "tie 5;", "tie 6;", "tie 7;", "tie 8;win 9;");
    }

    private static void promise04TheNinth() {
        HoldOuts x = full();
        feedAll(x, "tie 77;");
        String before = Edges.stateOf(x);
        due("the ninth", x.contest(7), -3);
        Edges.same("contest(7)", Edges.stateOf(x), before);
        due("the ninth once more", x.contest(0), -3);
        Edges.same("contest(0)", Edges.stateOf(x), before);
        due("gets of the eighth", x.gets(7, 0, 1, 1), 8);
        due("gets of the ninth", x.gets(8, 0, 1, 1), -10_000);
    }

    private static void promise04TheNinthWithAFault() {
        HoldOuts x = full();
        feedAll(x, "tie tie");
        due("the ninth", x.contest(7), -3);
        due("the tape stays", x.count(2), 20);
    }

    /** -2 stands before -3 in the document, and is looked at first. */
    private static void promise04LengthOfTheNinth() {
        HoldOuts x = full();
        due("contest(-1)", x.contest(-1), -2);
        due("contest(1)", x.contest(1), -2);
        due("contest(0)", x.contest(0), -3);
    }

    private static void promise04FaultsDoNotFill() {
        HoldOuts x = new HoldOuts();
        for (int i = 0; i < 20; i++) {
            due("a FAULT", Texts.tell(x, "win"), -1);
        }
        due("CONTESTS", x.count(0), 0);
        due("the first", Texts.tell(x, "win 1;"), 0);
    }

    // ---- 5: fault

    private static void faultIs(String text, int place) {
        HoldOuts x = new HoldOuts();
        due("contest of " + text, Texts.tell(x, text), place < 0 ? 0 : -1);
        due("fault of " + text, x.fault(), place);
    }

    private static void promise05NoneAtFirst() {
        due("fault()", new HoldOuts().fault(), -1);
    }

    private static void promise05NoneBehindANumber() {
        HoldOuts x = new HoldOuts();
        Texts.tell(x, "win");
        due("fault()", x.fault(), 3);
        Texts.tell(x, "win 1;");
        due("fault()", x.fault(), -1);
    }

    private static void promise05TheLatestFault() {
        HoldOuts x = new HoldOuts();
        Texts.tell(x, "win");
        Texts.tell(x, "win 1 2;");
        due("fault()", x.fault(), 6);
        Texts.tell(x, "#");
        due("fault()", x.fault(), 0);
    }

    private static void promise05StaysBehindARefusedLength() {
        HoldOuts x = new HoldOuts();
        Texts.tell(x, "win 1 2;");
        x.contest(-1);
        due("fault() behind -1", x.fault(), 6);
        x.contest(1);
        due("fault() behind 1", x.fault(), 6);
        x.contest(0);
        x.contest(-1);
        due("fault() behind a CONTEST and -1", x.fault(), -1);
    }

    private static void promise05StaysBehindTheNinth() {
        HoldOuts x = full();
        feedAll(x, "tie tie");
        x.contest(7);
        due("fault()", x.fault(), -1);
    }

    private static void promise05EmptyText() {
        faultIs("", -1);
    }

    private static void promise05BlanksAlone() {
        faultIs(" ", -1);
        faultIs("\n", -1);
        faultIs(" \n \n\n  ".repeat(60), -1);
    }

    private static void promise05BlanksAnywhere() {
        faultIs(" \nwin\n\n1 + \n( 2 )\nif [ 1 < 2 ] \n;\n ", -1);
        faultIs("win1+(2)if[1<2];", -1);
    }

    /** Behind a NUMBER each of all bytes, and then a digit. */
    private static void promise05ByteThatBeginsNone() {
        for (int b = 0; b < 256; b++) {
            char sign = (char) b;
            boolean goesOn = sign >= '0' && sign <= '9' || "+-*/".indexOf(sign) >= 0;
            boolean isTaken = sign == ' ' || sign == '\n' || sign == ';';
            HoldOuts x = new HoldOuts();
            due("contest with byte " + b, Texts.tell(x, "win 1" + sign + "2;"), goesOn ? 0 : -1);
            due("fault with byte " + b, x.fault(), goesOn ? -1 : isTaken ? 6 : 5);
        }
    }

    /** Behind a statement each of all bytes, with the next statement behind that. */
    private static void promise05ByteBetweenStatements() {
        for (int b = 0; b < 256; b++) {
            boolean isBlank = b == 32 || b == 10;
            HoldOuts x = new HoldOuts();
            due("contest with byte " + b, Texts.tell(x, "win 1;" + (char) b + " tie 2;"), isBlank ? 0 : -1);
            due("fault with byte " + b, x.fault(), isBlank ? -1 : 6);
        }
    }

    private static void promise05WordsAsLongAsTheyGo() {
        faultIs("winn 1;", 0);
        faultIs("wi 1;", 0);
        faultIs("wintie 1;", 0);
        faultIs("winworth;", 0);
        faultIs("win worths;", 4);
        faultIs("win wort;", 4);
        faultIs("win mineother;", 4);
        faultIs("win 1 iff 1<2;", 6);
        faultIs("win 1 i 1<2;", 6);
        faultIs("win 1 if notmine<2;", 9);
        faultIs("win 1 if 1<2 orr 1<2;", 13);
        faultIs("win 1 if 1<2 andor 1<2;", 13);
        faultIs("win abcdefghijklmnopqrstuvwxyz;", 4);
    }

    /** Each word of the document, and no other, where a WORD may stand. */
    private static void promise05EachWordInItsPlace() {
        for (String word : new String[] {"worth", "mine", "other", "purse", "who", "day"}) {
            faultIs("tie " + word + ";", -1);
            faultIs(word + " 1;", 0);
        }
        for (String word : new String[] {"win", "lose", "tie"}) {
            faultIs(word + " 1;", -1);
        }
        for (String word : new String[] {"win", "lose", "tie", "if", "or", "and", "not", "price", "a", "z"}) {
            faultIs("tie " + word + ";", 4);
        }
    }

    /** With any other letter in any place none of them is that word any more. */
    private static void promise05WordsToTheLetter() {
        for (String word : new String[] {"win", "lose", "tie"}) {
            anotherLetter(word, "", " 1;", 0);
        }
        for (String word : new String[] {"worth", "mine", "other", "purse", "who", "day"}) {
            anotherLetter(word, "tie ", ";", 4);
        }
        anotherLetter("if", "win 1 ", " 1<2;", 6);
        anotherLetter("not", "win 1 if ", " 1<2;", 9);
        anotherLetter("and", "win 1 if 1<2 ", " 1<2;", 13);
        anotherLetter("or", "win 1 if 1<2 ", " 1<2;", 13);
    }

    private static void anotherLetter(String word, String before, String behind, int place) {
        faultIs(before + word + behind, -1);
        for (int at = 0; at < word.length(); at++) {
            for (char letter = 'a'; letter <= 'z'; letter++) {
                if (letter != word.charAt(at)) {
                    faultIs(before + word.substring(0, at) + letter + word.substring(at + 1) + behind, place);
                }
            }
        }
        faultIs(before + 'a' + word + behind, place);
        faultIs(before + word + 'a' + behind, place);
        faultIs(before + word + 'z' + behind, place);
    }

    private static void promise05NumberOfOneDigit() {
        faultIs("tie 0;", -1);
        faultIs("tie 9;", -1);
    }

    private static void promise05NumberOfFiveDigits() {
        faultIs("tie 99999;", -1);
        faultIs("tie 00000;", -1);
        faultIs("tie 1 if 12345=12345;", -1);
    }

    private static void promise05NumberOfMoreDigits() {
        faultIs("tie 100000;", 4);
        faultIs("tie 000000;", 4);
        faultIs("tie 123456", 4);
        faultIs("tie 1+" + "7".repeat(300) + ";", 6);
        faultIs("tie 1 if 123456=1;", 9);
    }

    private static void promise05NineOpen() {
        faultIs("win " + "(".repeat(9) + "1" + ")".repeat(9) + ";", -1);
        faultIs("win 1 if " + "[".repeat(9) + "1<2" + "]".repeat(9) + ";", -1);
        faultIs("win 1 if " + "not ".repeat(9) + "1<2;", -1);
        faultIs("win 1 if " + "[not ".repeat(3) + "(((1)))<(((2)))" + "]".repeat(3) + ";", -1);
    }

    private static void promise05TenthRound() {
        faultIs("win " + "(".repeat(10) + "1" + ")".repeat(10) + ";", 13);
        faultIs("win 1+2*" + "(".repeat(10), 17);
    }

    private static void promise05TenthSquare() {
        faultIs("win 1 if " + "[".repeat(10) + "1<2" + "]".repeat(10) + ";", 18);
        faultIs("win 1 if " + "[".repeat(10), 18);
    }

    private static void promise05TenthNot() {
        faultIs("win 1 if " + "not ".repeat(10) + "1<2;", 45);
        faultIs("win 1 if " + "not ".repeat(10), 45);
    }

    private static void promise05TenthOfSeveralKinds() {
        faultIs("win 1 if " + "[".repeat(9) + "(1)<2" + "]".repeat(9) + ";", 18);
        faultIs("win 1 if " + "[".repeat(9) + "1<(2)" + "]".repeat(9) + ";", 20);
        faultIs("win 1 if " + "[".repeat(9) + "not 1<2" + "]".repeat(9) + ";", 18);
        faultIs("win 1 if " + "not ".repeat(9) + "[1<2];", 45);
        faultIs("win 1 if " + "not ".repeat(9) + "(1)<2;", 45);
        faultIs("win 1 if " + "not ".repeat(9) + "1<2*(2);", 49);
        faultIs("win 1 if " + "[not ".repeat(3) + "(((1)))<((((2))))" + "]".repeat(3) + ";", 35);
    }

    private static void promise05WhatIsClosedIsNotOpen() {
        faultIs("win " + "((1))+".repeat(30) + "1;", -1);
        faultIs("win 1 if " + "[1<2]or ".repeat(30) + "1<2;", -1);
        faultIs("win 1 if " + "not 1<2 and ".repeat(30) + "1<2;", -1);
        faultIs("win 1 if " + "not ".repeat(9) + "1<2 and " + "not ".repeat(9) + "1<2 or [((1))<2];", -1);
        faultIs("win 1 if " + "[".repeat(9) + "1<2" + "]".repeat(9) + " and " + "[".repeat(10), 44);
        faultIs("win " + "(".repeat(9) + "1" + ")".repeat(9) + " if " + "[".repeat(9) + "1<2" + "]".repeat(9)
            + ";tie " + "(".repeat(9) + "1" + ")".repeat(9) + ";", -1);
    }

    private static void promise05TwentyStatements() {
        HoldOuts x = new HoldOuts();
        due("contest of twenty", Texts.tell(x, "tie 1 if mine=9;".repeat(19) + "tie 20;\n "), 0);
        due("fault()", x.fault(), -1);
        due("statements", x.count(1), 20);
        due("the twentieth", x.gets(0, 0, 1, 1), 20);
    }

    private static void promise05TheTwentyFirstStatement() {
        faultIs("win 1;".repeat(21), 120);
        faultIs("win 1;".repeat(20) + "\n  lose 2;", 123);
        faultIs("win 1;".repeat(20) + "tie", 120);
        faultIs("win 1;".repeat(25), 120);
    }

    /** What begins no statement has its FAULT in the same place. */
    private static void promise05BehindTheTwentieth() {
        faultIs("win 1;".repeat(20) + " ;", 121);
        faultIs("win 1;".repeat(20) + " #", 121);
    }

    private static void promise05FaultBeforeTheTwentyFirst() {
        faultIs("win 1;".repeat(19) + "win;" + "win 1;", 117);
    }

    /** "the text's length, if more must come": wherever a text is cut behind a token. */
    private static void promise05MoreMustCome() {
        String[] tokens = {"win", "(", "worth", "+", "3", ")", "*", "mine", "-", "day", "/", "7", "if", "not", "[",
            "other", "<", "purse", "or", "1", "=", "2", "]", "and", "who", ">", "0", ";"};
        StringBuilder text = new StringBuilder();
        for (int i = 0; i < tokens.length; i++) {
            text.append(tokens[i]);
            boolean isWhole = i == tokens.length - 1;
            faultIs(text.toString(), isWhole ? -1 : text.length());
            faultIs(text + "\n ", isWhole ? -1 : text.length() + 2);
            text.append(' ');
        }
        faultIs("tie 1;" + "win 1", 11);
    }

    /** "with which no such text goes on": what fits ill in each place. */
    private static void promise05TokenThatFitsNot() {
        faultIs("3;", 0);
        faultIs(";", 0);
        faultIs("win 1;;", 6);
        faultIs("win if 1<2;", 4);
        faultIs("win -1;", 4);
        faultIs("win +1;", 4);
        faultIs("win [1];", 4);
        faultIs("win ();", 5);
        faultIs("win (1;", 6);
        faultIs("win (1];", 6);
        faultIs("win 1);", 5);
        faultIs("win 1(2);", 5);
        faultIs("win (1)2;", 7);
        faultIs("win 1+;", 6);
        faultIs("win 1*/2;", 6);
        faultIs("win 1<2;", 5);
        faultIs("win 1=2;", 5);
        faultIs("win 1 and 1<2;", 6);
        faultIs("win 1 tie 2;", 6);
        faultIs("win 1 if;", 8);
        faultIs("win 1 if 1;", 10);
        faultIs("win 1 if <2;", 9);
        faultIs("win 1 if 1<2<3;", 12);
        faultIs("win 1 if 1<>2;", 11);
        faultIs("win 1 if (1<2);", 11);
        faultIs("win 1 if [1<2;", 13);
        faultIs("win 1 if [1<2);", 13);
        faultIs("win 1 if [1];", 11);
        faultIs("win 1 if [];", 10);
        faultIs("win 1 if 1<2];", 12);
        faultIs("win 1 if [1<2]<3;", 14);
        faultIs("win 1 if 1<[2];", 11);
        faultIs("win 1 if not;", 12);
        faultIs("win 1 if 1<not 2;", 11);
        faultIs("win 1 if 1<2 not 1<2;", 13);
        faultIs("win 1 if 1<2 or;", 15);
        faultIs("win 1 if or 1<2;", 9);
        faultIs("win 1 if 1<2 and and 1<2;", 17);
        faultIs("win 1 if 1<2 if 1<2;", 13);
    }

    private static void promise05TheFirstOfSeveral() {
        faultIs("win # 123456 (", 4);
        faultIs("win 123456 #;", 4);
        faultIs("win 1 if 1<2 1<2 #", 13);
    }

    // ---- 6: gets: "-10,000: none such."

    private static void valueIs(String ex, int want) {
        HoldOuts x = Texts.with("win " + ex + ";");
        due("tells " + ex, x.gets(0, 0, 7, 3), want);
    }

    private static void promise06NoSuchContest() {
        HoldOuts x = Texts.with("tie 1;", "tie 2;");
        due("contest -1", x.gets(-1, 0, 1, 1), -10_000);
        due("contest 0", x.gets(0, 0, 1, 1), 1);
        due("contest 1", x.gets(1, 0, 1, 1), 2);
        due("contest 2", x.gets(2, 0, 1, 1), -10_000);
        due("contest 7", x.gets(7, 0, 1, 1), -10_000);
        due("contest 8", x.gets(8, 0, 1, 1), -10_000);
    }

    private static void promise06NoSuchPlayer() {
        HoldOuts x = Texts.with("tie who+1;");
        due("PLAYER -1", x.gets(0, -1, 1, 1), -10_000);
        for (int who = 0; who < 3; who++) {
            due("PLAYER " + who, x.gets(0, who, 1, 1), who + 1);
        }
        due("PLAYER 3", x.gets(0, 3, 1, 1), -10_000);
    }

    private static void promise06SumsTooSmall() {
        HoldOuts x = Texts.with("tie 5;lose 6;win 7;");
        due("mine -1", x.gets(0, 0, -1, 1), -10_000);
        due("other -1", x.gets(0, 0, 1, -1), -10_000);
        due("both -1", x.gets(0, 0, -1, -1), -10_000);
        due("both 0", x.gets(0, 0, 0, 0), 5);
    }

    private static void promise06SumsTooLarge() {
        HoldOuts x = Texts.with("tie mine+other;lose mine+other;win mine+other;");
        due("mine 1000", x.gets(0, 0, 1_000, 1), -10_000);
        due("other 1000", x.gets(0, 0, 1, 1_000), -10_000);
        due("mine 999", x.gets(0, 0, 999, 1), 1_000);
        due("other 999", x.gets(0, 0, 1, 999), 1_000);
        due("both 999", x.gets(0, 0, 999, 999), 1_998);
    }

    private static void promise06FarNumbers() {
        HoldOuts x = Texts.with("tie 5;");
        for (int far : Edges.FAR) {
            due("contest " + far, x.gets(far, 0, 1, 1), -10_000);
            due("PLAYER " + far, x.gets(0, far, 1, 1), -10_000);
            due("mine " + far, x.gets(0, 0, far, 1), -10_000);
            due("other " + far, x.gets(0, 0, 1, far), -10_000);
        }
    }

    /** "SUMS 0 to 999, whatever the PURSE" */
    private static void promise06WhateverThePurse() {
        HoldOuts x = Edges.two(4, 0, 3, 0, Edges.CLASSIC);
        due("win above the PURSE", x.gets(0, 0, 5, 1), -1);
        due("lose above the PURSE", x.gets(0, 1, 5, 6), -5);
    }

    private static void promise06GreaterLesserSame() {
        HoldOuts x = Texts.with("win 1;lose 2;tie 3;");
        due("win", x.gets(0, 0, 5, 4), 1);
        due("lose", x.gets(0, 0, 4, 5), 2);
        due("tie", x.gets(0, 0, 5, 5), 3);
    }

    private static void promise06NoStatementTells() {
        HoldOuts x = Texts.with("", "win 5;", "tie 5 if mine=9;");
        due("no statement", x.gets(0, 0, 1, 1), 0);
        due("none for that", x.gets(1, 0, 1, 1), 0);
        due("none holds", x.gets(2, 0, 1, 1), 0);
        due("one holds", x.gets(2, 0, 9, 9), 5);
    }

    private static void promise06TheFirstThatHolds() {
        HoldOuts x = Texts.with("win 9;tie 1 if mine<3;tie 2 if mine<5;tie 3;tie 4;");
        due("the first", x.gets(0, 0, 2, 2), 1);
        due("the second", x.gets(0, 0, 4, 4), 2);
        due("the one without if", x.gets(0, 0, 5, 5), 3);
    }

    /** "/ towards 0, 0 by 0" */
    private static void promise06DivisionBy0() {
        valueIs("5/0", 0);
        valueIs("0/0", 0);
        valueIs("(0-5)/0+3", 3);
        valueIs("8/(mine-7)", 0);
    }

    private static void promise06DivisionTowards0() {
        valueIs("7/2", 3);
        valueIs("(0-7)/2", -3);
        valueIs("7/(0-2)", -3);
        valueIs("(0-7)/(0-2)", 3);
        valueIs("(0-1)/2", 0);
    }

    // 50000*20000 is 10^9, which is the most that a result can be.

    private static void promise06SumHeld() {
        valueIs("99999*10000+9999-50000*20000", -1);
        valueIs("99999*10000+10000-50000*20000", 0);
        valueIs("99999*10000+10001-50000*20000", 0);
        valueIs("0-50000*20000+(0-1)+50000*20000", 0);
    }

    private static void promise06DifferenceHeld() {
        valueIs("0-50000*20000+50000*20000", 0);
        valueIs("0-50000*20000-1+50000*20000", 0);
        valueIs("1-50000*20000+50000*20000", 1);
        valueIs("50000*20000-(0-1)-50000*20000", 0);
    }

    private static void promise06ProductHeld() {
        valueIs("50000*19999+50000-50000*20000", 0);
        valueIs("50000*20001-50000*20000", 0);
        valueIs("(0-50000)*20001+50000*20000", 0);
        valueIs("99999*99999*99999*99999/50000/20000", 1);
        valueIs("99999*99999*(0-99999)*99999/50000/20000", -1);
    }

    private static void promise06GetsHeld() {
        valueIs("9998", 9_998);
        valueIs("9999", 9_999);
        valueIs("10000", 9_999);
        valueIs("99999", 9_999);
        valueIs("0-9998", -9_998);
        valueIs("0-9999", -9_999);
        valueIs("0-10000", -9_999);
        valueIs("0-99999*99999", -9_999);
    }

    /** Only what is told at last is held to 9,999. */
    private static void promise06ResultsNotHeldAsGets() {
        valueIs("99999-99990", 9);
        HoldOuts x = Texts.with("tie 1 if 99999>9999;tie 2;");
        due("in a condition", x.gets(0, 0, 1, 1), 1);
    }

    /** "day: 0 but in DAYS" */
    private static void promise06NoDay() {
        valueIs("day", 0);
        valueIs("5+day*3", 5);
    }

    /** Would it be a day, winning would get 5, and 0 would want to put in 1. */
    private static void promise06NoDayWhateverIsAsked() {
        HoldOuts x = Edges.two(9, 1, 9, 0, "win 5 if day>0;");
        x.player(2, 9, 0);
        due("rests", x.rests(0), 2);
        x.sure(0, 1);
        x.sure(1, 0);
        due("worth", x.worth(0, 0), 0);
        due("best", x.best(0, 0), 0);
        due("run", x.run(0, 1, 9, 0), 0);
        due("learn", x.learn(0, 9, 0, 0), 9);
        due("cycle", x.cycle(0, 0, 0, 0), 1);
        due("three", x.three(0, 0), 0);
        x.sort(0, 9, 1_000);
        x.sort(1, 9, 1_000);
        due("sorted", x.sorted(0, 0, 0), 0);
        due("deal", x.deal(0, 0, 0), 0);
        due("days", x.days(0, 0, 1_000, 1, 1), 5_000_000_000L);
    }

    private static void promise06WhatIsAsked() {
        HoldOuts x = Texts.with("tie worth*10+purse;win mine*1000+other;lose mine*1000+other;");
        for (int who = 0; who < 3; who++) {
            x.player(who, 30 + who, 4 + who);
            due("worth and purse of " + who, x.gets(0, who, 1, 1), 304 + 11 * who);
        }
        due("mine and other, winning", x.gets(0, 0, 9, 8), 9_008);
        due("mine and other, losing", x.gets(0, 0, 8, 9), 8_009);
    }

    private static void conditionIs(String any, boolean want) {
        HoldOuts x = Texts.with("win 1 if " + any + ";win 2;");
        due("if " + any, x.gets(0, 0, 7, 3), want ? 1 : 2);
    }

    /** Comparing at the edge: neither less nor more, but the same. */
    private static void promise06Compared() {
        conditionIs("6<7", true);
        conditionIs("7<7", false);
        conditionIs("8<7", false);
        conditionIs("6>7", false);
        conditionIs("7>7", false);
        conditionIs("8>7", true);
        conditionIs("6=7", false);
        conditionIs("7=7", true);
        conditionIs("0-1<0", true);
    }

    private static void promise06NotAndOr() {
        conditionIs("not 1=2", true);
        conditionIs("not not 1=2", false);
        conditionIs("1=1 and 1=2", false);
        conditionIs("1=2 and 1=1", false);
        conditionIs("1=1 and 2=2", true);
        conditionIs("1=1 or 1=2", true);
        conditionIs("1=2 or 1=1", true);
        conditionIs("1=2 or 2=1", false);
        conditionIs("1=1 or 1=1 and 1=2", true);
        conditionIs("1=2 and 1=1 or 1=1", true);
        conditionIs("[1=1 or 1=1] and 1=2", false);
        conditionIs("not 1=1 or 1=1", true);
        conditionIs("not [1=1 or 1=1]", false);
        conditionIs("not 1=2 and 1=2", false);
    }

    private static void promise06LeftToRight() {
        valueIs("9-3-2", 4);
        valueIs("8/2/2", 2);
        valueIs("7/2*2", 6);
        valueIs("2*7/2", 7);
        valueIs("1+2*3-4/2", 5);
        valueIs("9-(3-2)", 8);
    }

    /** As deep as it may go, with a result waiting at each level. */
    private static void promise06NineOpenAreReckoned() {
        valueIs("1+2*(".repeat(9) + "1" + ")".repeat(9), 1_023);
        conditionIs("1=1 and [1=2 or ".repeat(9) + "1+2*3=7" + "]".repeat(9), true);
        conditionIs("1=1 and [1=2 or ".repeat(9) + "1+2*3=8" + "]".repeat(9), false);
        conditionIs("1=2 or 1=1 and [".repeat(5) + "3+4*(3+4*(3+4*(3+4*1)))=1+2*(200+2*(100+1*7)-1)-1"
            + "]".repeat(5), false);
        conditionIs("1=2 or 1=1 and [".repeat(5) + "3+4*(3+4*(3+4*(3+4*1)))=1+2*(200+1*(50+1*5)-1)+2"
            + "]".repeat(5), true);
    }
}
