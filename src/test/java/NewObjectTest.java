/** Promise 1, "As told; no CROPS, nobody": what each call of the face answers on a new object. */
public final class NewObjectTest {
    private static final int BAD = Run.BAD, STATE = Run.STATE, NONE = Run.NONE, NO = Run.NO;
    private static final Due due = new Due();

    public static void main(String[] args) {
        theValley("1 on a new object", "");
        whatIsDone("1 on a new object", "");
        whatIsAsked("1 on a new object", "");
        kindsAndImages("1 on a new object", "");
        // A text without items tells a valley that answers like a new one; crops alone do not reap.
        theValley("4 behind an empty text, told anew", "c1 1;m1 1 1 1;m1 1 1 1;");
        whatIsDone("4 behind an empty text, told anew", "c1 1;m1 1 1 1;m1 1 1 1;");
        whatIsAsked("4 behind an empty text, told anew", "c1 1;m1 1 1 1;m1 1 1 1;");
        kindsAndImages("4 behind an empty text, told anew", "c1 1;m1 1 1 1;m1 1 1 1;");
        cropsButNobody();
        due.end();
    }

    private static Run emptyBehind(String sentence, String text) {
        Run run = new Run(due, sentence);
        return text.isEmpty() ? run : run.typed(text).is("valley", 3).is("valley", 0);
    }

    private static void theValley(String sentence, String text) {
        Run run = emptyBehind(sentence, text);
        run.is("count 0", 0).is("count 1", 0).is("count 2", 0).is("count 3", 0);
        run.is("clear", 0).is("valley", 0).is("clear", 0).is("type 99", 1).is("clear", 1);
        for (int what = 0; what <= 6; what++) {
            run.is("man 0 " + what, BAD);
        }
        run.is("yieldOf 0 0", BAD).is("carries 0 0", BAD);
        for (int what = 0; what <= 3; what++) {
            run.is("has 0 " + what, NO);
        }
        for (int what = 0; what <= 5; what++) {
            run.is("now " + what, 0);
        }
    }

    private static void whatIsDone(String sentence, String text) {
        Run run = emptyBehind(sentence, text);
        run.is("undo", STATE).is("sows 0 0", BAD).is("ropes 0 0", BAD).is("mules 0 0", BAD);
        run.is("marries 0 1", BAD).is("marries 0 0", BAD).is("now 5", 0).is("undo", STATE);
        run.is("rains 1", 0).is("now 1", 1).is("rains 1", 1).is("now 5", 2);
        run.is("year", 0).is("now 0", 1).is("now 5", 3).is("now 4", 0);
        run.is("undo", 2).is("now 0", 0).is("undo", 1).is("now 1", 1).is("undo", 0).is("now 1", 0);
        run.is("undo", STATE);
    }

    private static void whatIsAsked(String sentence, String text) {
        Run run = emptyBehind(sentence, text);
        run.is("best 0 0 0", BAD).is("rest 0 0", BAD).is("hungry 0", BAD).is("faces -1", NO).is("faces 0", NO);
        run.is("needed -1", 0).is("needed 0", BAD).is("stubble 0 0", BAD).is("count 2", 0).is("forget", 0);
        run.is("cut 0", BAD).is("odds 0 0 0 0 0", BAD).is("rich 0 0", BAD).is("poor", NONE);
        run.is("share 0 0", BAD).is("share 0 1", BAD);
    }

    private static void kindsAndImages(String sentence, String text) {
        Run run = emptyBehind(sentence, text);
        for (int kind = 0; kind <= 5; kind++) {
            run.is("rate " + kind + " 0", NO);
        }
        run.is("trace", 0).is("back 0", STATE).is("back 1", STATE);
        run.is("rains 1", 0).is("keep 1", 0).is("year", 0).is("back 0", STATE).is("now 0", 1);
        run.is("back 1", 0).is("now 0", 0).is("now 1", 1).is("undo", STATE).is("trace", 0);
    }

    private static void cropsButNobody() {
        Run run = Run.of(due, "1 crops, but nobody", "c1 1;c2 2;c3 3;");
        run.is("count 0", 3).is("count 1", 0).is("yieldOf 0 0", BAD).is("carries 0 0", BAD).is("sows 0 0", BAD);
        run.is("man 0 0", BAD).is("has 0 0", NO).is("faces -1", NO).is("faces 0", NO).is("needed -1", 0);
        run.is("needed 0", BAD).is("poor", NONE).is("year", 0).is("now 3", 0).is("now 4", 0).is("cut 0", BAD);
        run.is("share 0 1", BAD).is("rate 0 0", NO).is("stubble 0 0", BAD);
    }
}
