/** Promises 2, 3, 4 and 32: what may be told, each way to a FAULT, and reading anew. */
public final class TextEdgesTest {
    private static final int BAD = Run.BAD, STATE = Run.STATE, FULL = Run.FULL, NONE = Run.NONE, NO = Run.NO;
    private static final int[] WRONG_LETTERS = {-1, 256, Run.LOW, Run.HIGH};
    private static final Due due = new Due();
    private static final String SIX_MEN = "m1 1 1 1;m1 1 1 1;m1 1 1 1;m1 1 1 1;m1 1 1 1;m1 1 1 1;";

    public static void main(String[] args) {
        letters();
        fullText();
        fullTextIsRead();
        clearing();
        emptyText();
        oneLetterAlone();
        anyOtherLetter();
        numbersOfCrops();
        numbersOfMen();
        numbersThatAreNone();
        whatMayStandAheadOfMen();
        whatMayStandBehindMen();
        whatMayStandInItems();
        yieldsForEachCrop();
        endsTooEarly();
        blanks();
        theFirstFault();
        textGoesOnBehindFault();
        mostAndLeast();
        readAnew();
        fewerMenAnew();
        due.end();
    }

    private static void reads(String sentence, String text, int answer) {
        new Run(due, sentence + " '" + text + "'").typed(text).is("valley", answer);
    }

    private static void fault(String sentence, String text, int place) {
        Run run = Run.of(due, sentence + " '" + text + "'", "c4 4;m5 5 5 5;").typed(text);
        run.is("valley", -10 - place).is("count 3", text.length()).is("count 0", 1).is("count 1", 1);
        run.is("man 0 0", 5).is("yieldOf 0 0", 5).is("valley", -10 - place).is("clear", text.length());
    }

    private static void letters() {
        Run low = new Run(due, "2 a letter (0 .. 255)");
        Run high = new Run(due, "2 a letter (0 .. 255)");
        for (int i = 0; i < 128; i++) {
            low.is("type " + i, i + 1);
            high.is("type " + (128 + i), i + 1);
        }
        for (int letter : WRONG_LETTERS) {
            low.is("type " + letter, BAD).is("count 3", 128);
        }
        low.is("type 0", 129);
    }

    private static void fullText() {
        Run run = new Run(due, "2 200 letters at most");
        run.times(199, "type 32").is("count 3", 199).is("type 32", 200).is("type 32", FULL).is("type 0", FULL);
        run.is("type 255", FULL).is("count 3", 200);
        for (int letter : WRONG_LETTERS) {
            run.is("type " + letter, BAD);
        }
        run.is("clear", 200).is("type 32", 1).times(198, "type 32").is("type 32", 200).is("type 32", FULL);
        run.is("valley", 0).is("type 32", 1);
    }

    private static void fullTextIsRead() {
        String text = "c1 2;" + " ".repeat(185) + "m3 4 5 6; ";
        Run run = new Run(due, "4 200 letters, and one that was refused").typed(text);
        run.is("count 3", 200).is("type 120", FULL).is("valley", 2).is("count 3", 0).is("man 0 2", 5);
        reads("4 the text's length, if it ends too early", " ".repeat(199) + "c", -210);
        reads("4 a fault of the last letter", " ".repeat(199) + ";", -209);
        reads("4 a letter that is none, the last one", "c1 1;" + " ".repeat(194) + "x", -209);
    }

    private static void clearing() {
        Run run = Run.of(due, "3 THE TEXT is empty", "c1 1;m1 1 1 1;");
        run.is("clear", 0).is("type 120", 1).is("clear", 1).is("count 3", 0).is("clear", 0);
        run.is("count 0", 1).is("count 1", 1);
        run.typed("c1 1;").is("valley", 1).is("count 1", 0);
        run.typed("x").is("valley", -10).is("clear", 1).is("valley", 0);
    }

    private static void emptyText() {
        Run run = Run.of(due, "4 the empty text tells no crops, nobody", "c1 1;m1 1 1 1;m1 1 1 1;");
        run.is("sows 0 0", 0).is("stubble 1 1", 1).is("keep 0", 0).is("valley", 0).is("count 0", 0).is("count 1", 0);
        run.is("count 2", 0).is("man 0 0", BAD).is("back 0", STATE).is("undo", STATE).is("poor", NONE);
        run.is("faces -1", NO).is("needed -1", 0);
        run.typed("  ").is("valley", 0).is("count 3", 0).typed("c1 1;").is("valley", 1).is("count 0", 1);
    }

    private static void oneLetterAlone() {
        for (int letter = 0; letter <= 255; letter++) {
            int answer = letter == ' ' ? 0 : letter == 'c' ? -11 : -10;
            new Run(due, "4 the letter " + letter + " alone").is("type " + letter, 1).is("valley", answer);
        }
    }

    private static void anyOtherLetter() {
        String[] heads = {"", "c1 1;", "c", "c1 ", "c1 1", "c1 1;m", "c1 1;m1 1 1 1", "c1 1;m1 1 1 1;"};
        for (String head : heads) {
            for (int letter = 0; letter <= 255; letter++) {
                if ("cm; 0123456789".indexOf(letter) < 0) {
                    String text = head + (char) letter + " 1 1;";
                    reads("4 FAULT of any other letter " + letter, text, -10 - head.length());
                }
            }
        }
    }

    /** In the text # stands for the number, which may be from least to most. */
    private static void number(String text, int least, int most) {
        String[] halves = text.split("#");
        int place = halves[0].length();
        int items = text.length() - text.replace(";", "").length();
        for (int n = 0; n <= 130; n++) {
            int answer = n >= least && n <= most ? items : -10 - place;
            reads("4 a NUMBER from " + least + " to " + most, halves[0] + n + halves[1], answer);
        }
    }

    private static void numbersOfCrops() {
        number("c# 1;", 1, 9);
        number("c1 #;", 1, 9);
        number("c1 1;c# 1;", 1, 9);
        number("c1 1;c1 1;c1 #;m1 1 1 1 1 1;", 1, 9);
    }

    private static void numbersOfMen() {
        number("c1 1;m# 1 1 1;", 1, 20);
        number("c1 1;m1 # 1 1;", 0, 9);
        number("c1 1;m1 1 # 1;", 0, 99);
        number("c1 1;m1 1 1 #;", 0, 40);
        number("c1 1;c1 1;m1 1 1 # 1;", 0, 40);
        number("c1 1;c1 1;m1 1 1 1 #;", 0, 40);
        number("c1 1;c1 1;c1 1;m1 1 1 1 1 #;", 0, 40);
        number("c1 1;m1 1 1 1;m# 1 1 1;", 1, 20);
    }

    private static void numbersThatAreNone() {
        String[] none = {
            "100", "101", "999", "1000", "00", "01", "09", "000", "010", "099", "0100", "0000000001", "256",
            "2147483648", "4294967296", "4294967297", "18446744073709551616", "18446744073709551617",
        };
        for (String digits : none) {
            reads("4 a NUMBER above 99 or with a 0 ahead", digits, -10);
            reads("4 a NUMBER above 99 or with a 0 ahead", "c" + digits + " 1;", -11);
            reads("4 a NUMBER above 99 or with a 0 ahead", "c1 " + digits + ";", -13);
            reads("4 a NUMBER above 99 or with a 0 ahead", "c1 1" + ";m1 1 " + digits + " 1;", -20);
            reads("4 a NUMBER above 99 or with a 0 ahead", "c1 1;m1 " + digits, -18);
            reads("4 a NUMBER above 99 or with a 0 ahead", "c1 1;m1 1 1 " + digits + ";", -22);
            reads("4 a NUMBER where ; is due", "c1 1 " + digits, -15);
        }
        reads("4 0 alone has no 0 ahead of others", "c1 1;m1 0 0 0;", 2);
        reads("4 digits together are one NUMBER", "c11;", -11);
        reads("4 as many digits as there is room for", "c1 1;m1 1 " + "9".repeat(190), -20);
        reads("4 as many digits as there is room for", "c1 1;m1 1 " + "0".repeat(190), -20);
        reads("4 as many digits as there is room for", "c1 1;m1 1 " + "0".repeat(189) + "1", -20);
    }

    /** What stands behind the head: c, m, a NUMBER, ; and a letter that is none. */
    private static void behind(String head, boolean c, boolean m, boolean number, boolean end) {
        String[] tokens = {"c", "m", "1", ";", "x"};
        boolean[] may = {c, m, number, end, false};
        for (int i = 0; i < tokens.length; i++) {
            String text = head + tokens[i];
            boolean item = may[i] && tokens[i].equals(";");
            int items = text.length() - text.replace(";", "").length();
            String sentence = "4 the first TOKEN that can't stand there";
            reads(sentence, text, item ? items : may[i] ? -10 - text.length() : -10 - head.length());
            if (!may[i]) {
                fault(sentence + ", nothing changes", text, head.length());
            }
        }
    }

    private static void whatMayStandAheadOfMen() {
        behind("", true, false, false, false);
        behind("   ", true, false, false, false);
        behind("c1 1;", true, true, false, false);
        behind("c1 1;c1 1;", true, true, false, false);
        // "a fourth c"
        behind("c1 1;c1 1;c1 1;", false, true, false, false);
        fault("4 a fourth c", "c1 1;c1 1;c1 1;c1 1;", 15);
        // "m without CROPS"
        fault("4 m without CROPS", "m1 1 1;", 0);
        fault("4 m without CROPS", " m1 1 1;c1 1;", 1);
    }

    private static void whatMayStandBehindMen() {
        behind("c1 1;m1 1 1 1;", false, true, false, false);
        // "c behind m", though there is room for two more crops
        fault("4 c behind m", "c1 1;m1 1 1 1;c1 1;", 14);
        fault("4 c behind m", "c1 1;c1 1;c1 1;m1 1 1 1 1 1;c1 1;", 28);
        behind("c1 1;" + SIX_MEN.substring(9), false, true, false, false);
        // "a seventh m"
        behind("c1 1;" + SIX_MEN, false, false, false, false);
        fault("4 a seventh m", "c1 1;" + SIX_MEN + "m1 1 1 1;", 59);
        fault("4 a seventh m, whatever its numbers", "c1 1;" + SIX_MEN + " m0 99 x", 60);
    }

    private static void whatMayStandInItems() {
        behind("c", false, false, true, false);
        behind("c1 ", false, false, true, false);
        behind("c1 1 ", false, false, false, true);
        behind("c1 1;m", false, false, true, false);
        behind("c1 1;m1 ", false, false, true, false);
        behind("c1 1;m1 1 ", false, false, true, false);
        behind("c1 1;m1 1 1 ", false, false, true, false);
        behind("c1 1;m1 1 1 1 ", false, false, false, true);
    }

    private static void yieldsForEachCrop() {
        behind("c1 1;c1 1;m1 1 1 1 ", false, false, true, false);
        behind("c1 1;c1 1;m1 1 1 1 1 ", false, false, false, true);
        behind("c1 1;c1 1;c1 1;m1 1 1 1 1 ", false, false, true, false);
        behind("c1 1;c1 1;c1 1;m1 1 1 1 1 1 ", false, false, false, true);
    }

    private static void endsTooEarly() {
        String text = " c2 3 ; c 5 7;m10 2 20 30 12;m 4 3 50 25 40 ;";
        for (int length = 0; length <= text.length(); length++) {
            String part = text.substring(0, length);
            int items = part.length() - part.replace(";", "").length();
            boolean whole = part.isBlank() || part.stripTrailing().endsWith(";");
            reads("4 the text's length, if it ends too early", part, whole ? items : -10 - length);
            if (!whole) {
                reads("4 the text's length, with blanks", part + "   ", -13 - length);
            }
        }
        fault("4 ends too early, nothing changes", "c1 1", 4);
        fault("4 ends too early, nothing changes", "c1 1;m1 1 1 1", 13);
        fault("4 ends too early, nothing changes", "c1 1;m1 1 1 1;m", 15);
    }

    private static void blanks() {
        reads("4 blanks between TOKENS", "c1 1;m1 1 1 1;", 2);
        reads("4 blanks between TOKENS", "   c   1   1   ;   m   1   1   1   1   ;   ", 2);
        reads("4 blanks (32) alone", "c1\t1;", -12);
        reads("4 blanks (32) alone", "c1\n1;", -12);
        reads("4 blanks (32) alone", "c1" + (char) 160 + "1;", -12);
        reads("4 a blank parts a NUMBER", "c1 1;m1 2 3 4 0;", -24);
        reads("4 a blank parts a NUMBER", "c1 1;m1 2 3 40;", 2);
    }

    private static void theFirstFault() {
        fault("4 the first TOKEN counts", "c0 0;", 1);
        fault("4 the first TOKEN counts", "c0 1;x", 1);
        fault("4 the first TOKEN counts", "x c0", 0);
        fault("4 the first TOKEN counts", "c1 1;m21 100 x", 6);
        fault("4 the first TOKEN counts", "c1 100;m", 3);
        fault("4 a NUMBER beyond ahead of the early end", "c10", 1);
        fault("4 behind whole items", "c1 1;c1 1;m1 1 1 1 1;m1 1 1 1 41;", 30);
    }

    private static void textGoesOnBehindFault() {
        Run run = new Run(due, "4 nothing changes: the text can be told on").typed("c2 3;m4 5 6 7");
        run.is("valley", -23).is("count 3", 13).is("count 0", 0).is("type 59", 14).is("valley", 2);
        run.is("man 0 0", 4).is("man 0 1", 5).is("man 0 2", 6).is("yieldOf 0 0", 7);
    }

    private static void mostAndLeast() {
        String crops = "c9 9;c9 9;c9 9;";
        String man = "m20 9 99 40 40 40;";
        Run most = new Run(due, "4 the most that may be told").typed(crops + man.repeat(6)).is("valley", 9);
        most.is("count 0", 3).is("count 1", 6).each("man # 0", 20, 20, 20, 20, 20, 20, BAD);
        most.each("man # 1", 9, 9, 9, 9, 9, 9, BAD).each("man # 2", 99, 99, 99, 99, 99, 99, BAD);
        for (int crop = 0; crop < 3; crop++) {
            most.each("yieldOf # " + crop, 40, 40, 40, 40, 40, 40, BAD).each("carries # " + crop, 18, 18, 18);
        }
        most.is("yieldOf 0 3", BAD).is("has 0 2", 40 * 9).is("now 4", 6 * 40 * 9);
        most.each("man # 4", 1, 0, 3, 2, 5, 4);
        Run least = new Run(due, "4 the least that may be told").typed("c1 1;m1 0 0 0;").is("valley", 2);
        least.is("man 0 0", 1).is("man 0 1", 0).is("man 0 2", 0).is("yieldOf 0 0", 0).is("carries 0 0", 0);
        least.is("man 0 4", NONE).is("has 0 2", 0).is("yieldOf 0 1", BAD).is("man 1 0", BAD);
        int[][] atFirst = {{}, {NONE}, {1, 0}, {1, 0, NONE}, {1, 0, 3, 2}, {1, 0, 3, 2, NONE}, {1, 0, 3, 2, 5, 4}};
        for (int men = 0; men <= 6; men++) {
            Run run = Run.of(due, "4 who OPPOSES whom at first, if both are there", "c1 1;" + "m1 1 1 1;".repeat(men));
            for (int m = 0; m < men; m++) {
                run.is("man " + m + " 4", atFirst[men][m]);
            }
            run.is("man " + men + " 4", BAD).is("count 1", men);
        }
    }

    private static void readAnew() {
        String text = "c2 3;c5 7;m10 2 20 30 12;m4 3 50 25 40;m7 1 9 6 2;";
        Run run = Run.of(due, "4 Read anew", text);
        run.is("year", 3).is("keep 0", 1).is("sows 0 1", 0).is("sows 1 1", 0).is("rains 1", 0).is("ropes 1 3", 0);
        run.is("mules 2 1", 0).is("marries 0 2", NONE).is("keep 1", 1).is("stubble 0 4", 1).is("stubble 2 180", 2);
        run.is("rate 3 0", 2 * (12 * 7 + 10)).typed(text).is("valley", 5);
        run.each("man # 3", 0, 0, 0).each("man # 4", 1, 0, NONE).each("man # 5", 0, 0, 0).each("man # 6", 0, 0, 0);
        run.each("has # 3", 0, 0, 0).is("now 0", 0).is("now 1", 0).is("now 2", 0).is("now 5", 0);
        run.is("count 2", 0).is("cut 0", 3).is("forget", 0).is("back 0", STATE).is("back 1", STATE).is("undo", STATE);
        run.is("count 3", 0).is("trace", 1011);
        run.is("year", 3).is("keep 1", 1).is("back 0", STATE).is("undo", 0);
        run.typed("c").is("valley", -11).is("back 1", 1).is("now 0", 1);
    }

    private static void fewerMenAnew() {
        Run run = Run.of(due, "4 tells all anew: fewer crops, fewer men", "c1 1;c1 2;c1 3;m1 1 1 1 2 3;m2 2 2 4 5 6;m3 3 3 7 8 9;");
        run.is("sows 0 2", 0).is("sows 1 2", 0).is("ropes 2 3", 0).is("now 2", 3);
        run.typed("c9 8;m7 6 5 4;").is("valley", 2).is("count 0", 1).is("count 1", 1);
        run.is("man 1 0", BAD).is("man 2 5", BAD).is("yieldOf 0 1", BAD).is("yieldOf 0 0", 4).is("man 0 4", NONE);
        run.is("man 0 3", 0).is("now 2", 0).is("now 4", 32).is("has 0 2", 32).is("sows 0 1", BAD).is("marries 0 1", BAD);
        run.typed("c1 1;m1 1 1 1;m2 2 2 2;").is("valley", 3).each("man # 4", 1, 0).each("man # 5", 0, 0).is("man 2 0", BAD);
    }
}
