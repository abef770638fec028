import java.nio.charset.StandardCharsets;
import java.util.Random;

/** Texts of contests for tests: fed as five numbers a call, or made by chance. */
final class Texts {
    private static final String[] WORDS = {"worth", "mine", "other", "purse", "who", "day"};
    private static final String[] SPOILS = {
        "", " ", "\n", "win", "lose", "tie", "if", "or", "and", "not", "worth", "day", "12345", "123456", "7",
        "+", "-", "*", "/", "(", ")", "[", "]", "<", ">", "=", ";", "#", "W", "wins", "\u00e9", "\u0000", "!="};

    private final Random random;

    Texts(Random random) {
        this.random = random;
    }

    /** The numbers for one feed(), from a place of the text on; blanks behind its end. */
    static int[] numbers(String text, int from) {
        byte[] bytes = text.getBytes(StandardCharsets.ISO_8859_1);
        int[] numbers = new int[5];
        for (int i = 0; i < 20; i++) {
            int value = from + i < bytes.length ? bytes[from + i] & 255 : ' ';
            numbers[i / 4] = numbers[i / 4] << 8 | value;
        }
        return numbers;
    }

    /** Feeds a text, and tells the contest with its length. */
    static int tell(HoldOuts x, String text) {
        for (int from = 0; from < text.length(); from += 20) {
            int[] n = numbers(text, from);
            x.feed(n[0], n[1], n[2], n[3], n[4]);
        }
        return x.contest(text.length());
    }

    static HoldOuts with(String... texts) {
        HoldOuts x = new HoldOuts();
        for (String text : texts) {
            if (tell(x, text) < 0) {
                throw new IllegalArgumentException(text);
            }
        }
        return x;
    }

    private String blank() {
        return random.nextInt(6) == 0 ? random.nextBoolean() ? " " : "\n" : "";
    }

    private String number() {
        switch (random.nextInt(8)) {
            case 0: return String.valueOf(random.nextInt(100_000));
            case 1: return String.valueOf(random.nextInt(1_000));
            default: return String.valueOf(random.nextInt(8));
        }
    }

    private String atom(int depth) {
        int pick = random.nextInt(10);
        if (pick < 3) {
            return number();
        }
        if (pick < 9 || depth > 8) {
            return WORDS[random.nextInt(random.nextInt(3) == 0 ? 6 : 3)];
        }
        return "(" + blank() + ex(depth + 1) + ")";
    }

    String ex(int depth) {
        StringBuilder text = new StringBuilder(atom(depth));
        while (random.nextInt(5) < 2) {
            text.append(blank()).append("+-*/".charAt(random.nextInt(4))).append(blank()).append(atom(depth));
        }
        return text.toString();
    }

    private String one(int depth) {
        int pick = random.nextInt(8);
        if (pick == 0 && depth < 9) {
            return "not " + one(depth + 1);
        }
        if (pick == 1 && depth < 9) {
            return "[" + any(depth + 1) + "]" + blank();
        }
        return ex(depth) + blank() + "<>=".charAt(random.nextInt(3)) + ex(depth);
    }

    String any(int depth) {
        StringBuilder text = new StringBuilder(one(depth));
        while (random.nextInt(4) == 0) {
            text.append(random.nextBoolean() ? " and " : " or ").append(one(depth));
        }
        return text.toString();
    }

    String statement() {
        String outcome = new String[] {"win ", "lose ", "tie "}[random.nextInt(3)];
        return blank() + outcome + ex(0) + (random.nextInt(3) == 0 ? " if " + any(0) : "") + ";";
    }

    /** A text without FAULT that tells all three outcomes in a way that makes contests of interest. */
    String contest() {
        StringBuilder text = new StringBuilder();
        for (int i = random.nextInt(3); i > 0; i--) {
            text.append(statement());
        }
        text.append(new String[] {"win worth-mine;", "win worth;", "win worth-other;", "win worth-mine*mine/2;",
            "win worth*2-mine*3;", "win (worth-mine)*997/3;", "win 9999;"}[random.nextInt(7)]);
        text.append(new String[] {"lose 0-mine;", "lose 0-mine/2;", "", "lose 0-mine*mine;", "lose 0-mine*499/7;"}
            [random.nextInt(5)]);
        text.append(new String[] {"tie worth/2-mine;", "tie worth/3-mine;", "tie 0-mine;", "", "tie (worth-mine)/2;"}
            [random.nextInt(5)]);
        return text.length() > 500 ? contest() : text.toString();
    }

    /** A text that has a FAULT more often than not. */
    String spoiled() {
        StringBuilder text = new StringBuilder();
        for (int i = random.nextInt(random.nextInt(8) == 0 ? 24 : 4); i >= 0; i--) {
            text.append(random.nextInt(3) == 0 ? deepStatement() : statement());
        }
        for (int i = random.nextInt(3); i > 0; i--) {
            int from = random.nextInt(text.length());
            int to = Math.min(text.length(), from + random.nextInt(4));
            text.replace(from, to, SPOILS[random.nextInt(SPOILS.length)]);
        }
        if (random.nextInt(6) == 0) {
            text.setLength(random.nextInt(text.length() + 1));
        }
        text.setLength(Math.min(500, text.length()));
        return text.toString();
    }

    /** A statement with about as many open in one another as may be. */
    private String deepStatement() {
        StringBuilder open = new StringBuilder();
        StringBuilder close = new StringBuilder();
        int rounds = random.nextInt(11);
        int count = 7 + random.nextInt(4);
        boolean isValue = random.nextInt(3) == 0;
        for (int i = 0; i < count; i++) {
            if (isValue || i >= rounds) {
                open.append("(");
                close.insert(0, ")");
            } else if (random.nextBoolean()) {
                open.append("not ");
            } else {
                open.append("[");
                close.append("]");
            }
        }
        if (isValue) {
            return "win " + open + "1" + close + ";";
        }
        int split = close.indexOf("]");
        String roundsClosed = split < 0 ? close.toString() : close.substring(0, split);
        String squaresClosed = split < 0 ? "" : close.substring(split);
        return "lose 1 if " + open + "1" + roundsClosed + "<2" + squaresClosed + " and not " + one(1) + ";";
    }
}
