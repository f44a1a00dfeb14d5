/** Promises 29 to 33: each KIND and what comes to THE TRACE, IMAGES, counts. */
public final class KindImageEdgesTest {
    private static final int BAD = Run.BAD, STATE = Run.STATE, NONE = Run.NONE, NO = Run.NO;
    private static final Due due = new Due();
    private static final String THREE = "c2 3;c5 7;m10 2 20 30 12;m4 3 50 25 40;m7 1 9 6 2;";
    private static final long[] ADDED = {1, 11, 101, 1011, 10101, 100001};

    public static void main(String[] args) {
        eachKind();
        leastRates();
        eachTrace();
        noTrace();
        traceStays();
        imagesAreTwo();
        noneKept();
        whatAnImageKeeps();
        whatAnImageDoesNotKeep();
        keptAnew();
        nothingUndoneBehindBack();
        imagesAreGone();
        counts();
        due.end();
    }

    private static void eachKind() {
        Run run = Run.of(due, "29 RATE of one as if of a KIND", THREE);
        run.is("year", 3).is("year", 3).is("year", 3);
        run.each("rate 0 #", 102, 63, 18, NO);
        run.each("rate 1 #", 112, 67, 25, NO);
        run.each("rate 2 #", 82, 13, 9, NO);
        run.each("rate 3 #", 224, 134, 50, NO);
        run.each("rate 4 #", 82, 14, 11, NO);
        run.each("rate 5 #", 105, 66, 21, NO);
        run.is("undo", 2).each("rate 5 #", 104, 65, 20, NO).is("rate 6 0", NO).is("rate -1 0", NO).is("rate 0 -1", NO);
        run.is("sows 0 1", 0).is("rate 0 0", 30 + 12 * 7).is("rate 1 0", 124).is("rate 3 0", 248);
    }

    private static void leastRates() {
        Run run = Run.of(due, "29 a RATE may be below 0", "c1 1;m1 0 99 0;m20 0 1 0;");
        run.each("rate 0 #", 0, 0, NO).each("rate 1 #", 1, 20, NO).each("rate 2 #", -99, -1, NO);
        run.each("rate 3 #", 2, 40, NO).each("rate 4 #", -99, 0, NO).each("rate 5 #", 0, 0, NO);
        Run six = Run.of(due, "29 his number", "c9 9;" + "m20 9 99 40;".repeat(6));
        six.each("rate 4 #", 261, 262, 263, 264, 265, 266, NO).each("rate 3 #", 760, 760, 760, 760, 760, 760, NO);
    }

    private static void eachTrace() {
        for (int kind = 0; kind <= 5; kind++) {
            Run run = Run.of(due, "33 numbers in brackets, each once, of KIND " + kind, THREE);
            run.is("trace", 0);
            for (int i = 1; i <= 3; i++) {
                run.ask("rate " + kind + " " + (i - 1));
                run.is("trace", i * ADDED[kind]).is("trace", i * ADDED[kind]);
            }
        }
        Run all = Run.of(due, "33 THE TRACE of all KINDS", THREE);
        long sum = 0;
        for (int i = 0; i < 180; i++) {
            all.ask("rate " + i % 6 + " 0");
            sum += ADDED[i % 6];
        }
        all.is("trace", sum).is("trace", 30 * 111226L);
        // As many as an object's calls allow: some forty millions.
        Run most = Run.of(due, "33 THE TRACE at its greatest", "c1 1;m1 1 1 1;");
        most.times(490, "rate 5 0").is("trace", 490 * 100001L);
    }

    private static void noTrace() {
        Run run = Run.of(due, "33 what is refused adds nothing", THREE);
        int[] wrong = {-1, 6, Run.LOW, Run.HIGH};
        for (int kind : wrong) {
            run.is("rate " + kind + " 0", NO).is("rate " + kind + " 3", NO).is("trace", 0);
        }
        int[] nobody = {-1, 3, Run.LOW, Run.HIGH};
        for (int m : nobody) {
            for (int kind = 0; kind <= 5; kind++) {
                run.is("rate " + kind + " " + m, NO);
            }
            run.is("trace", 0);
        }
        String[] questions = {"has 0 2", "best 0 0 0", "rest 0 0", "faces -1", "needed -1", "share 0 0", "rich 0 9", "now 4", "year"};
        for (String question : questions) {
            run.ask(question);
            run.is("trace", 0);
        }
    }

    private static void traceStays() {
        Run run = Run.of(due, "33 nothing else changes THE TRACE", THREE);
        run.is("keep 0", 0).is("year", 3).is("rate 5 0", 103).is("trace", 100001).is("undo", 0).is("trace", 100001);
        run.is("back 0", 0).is("trace", 100001).is("clear", 0).is("valley", 0).is("trace", 100001).is("rate 5 0", NO);
        run.is("trace", 100001);
    }

    private static void imagesAreTwo() {
        Run run = Run.of(due, "30 IMAGES 0, 1", THREE);
        int[] wrong = {-1, 2, Run.LOW, Run.HIGH};
        for (int image : wrong) {
            run.is("keep " + image, BAD).is("back " + image, BAD);
        }
        run.is("back 0", STATE).is("back 1", STATE).is("keep 0", 0).is("year", 3).is("keep 1", 1).is("year", 3);
        for (int image : wrong) {
            run.is("keep " + image, BAD).is("back " + image, BAD).is("now 0", 2);
        }
        run.is("back 0", 0).is("now 0", 0).is("back 1", 1).is("now 0", 1).is("back 1", 1).is("back 0", 0);
    }

    private static void noneKept() {
        Run run = Run.of(due, "31 STATE: none was kept", THREE);
        run.is("sows 0 1", 0).is("year", 2).is("back 0", STATE).is("back 1", STATE).is("now 5", 2).is("now 0", 1);
        run.is("man 0 3", 1).is("keep 1", 1).is("back 0", STATE).is("now 5", 2).is("undo", 1).is("back 0", STATE).is("undo", 0);
    }

    private static void isAsKept(Run run) {
        run.each("man # 3", 1, 0, 0).each("man # 4", NONE, 2, 1).each("man # 5", 0, 2, 0).each("man # 6", 0, 0, 1);
        run.is("now 0", 2).is("now 1", 1).is("now 2", 2).each("has # 3", 64 * 2, -10 * 2, 11 * 2);
    }

    private static void whatAnImageKeeps() {
        // Man 0 has 84 of his own; man 1 has 70, and takes 3 of man 2's 6, who takes 4 of man 1's 25.
        Run run = Run.of(due, "31 All of that becomes as an IMAGE has it", "c2 3;c5 7;m10 2 20 30 12;m4 1 82 25 40;m7 1 10 6 2;");
        run.is("sows 0 1", 0).is("rains 1", 0).is("ropes 1 2", 0).is("mules 2 1", 0).is("marries 0 2", NONE);
        run.each("has # 0", 0, 3, 4).each("has # 1", 12, 21, 3).each("has # 2", 84, 72, 21);
        run.is("year", 2).is("year", 2);
        isAsKept(run);
        run.is("keep 0", 2);
        isAsKept(run);
        run.is("sows 0 0", 1).is("sows 2 1", 0).is("rains 0", 1).is("ropes 1 0", 2).is("ropes 0 3", 0).is("mules 2 0", 1);
        run.is("mules 1 1", 0).is("marries 0 1", 2).is("year", 1).is("back 0", 2);
        isAsKept(run);
        run.is("marries 2 0", NONE).is("year", 2).is("undo", 1).is("back 0", 2);
        isAsKept(run);
    }

    private static void whatAnImageDoesNotKeep() {
        Run run = Run.of(due, "30 nothing else", THREE);
        run.is("stubble 0 10", 1).is("type 99", 1).is("keep 0", 0).is("stubble 1 7", 2).is("type 32", 2).is("rate 0 0", 102);
        run.is("back 0", 0).is("count 2", 2).is("count 3", 2).is("trace", 1).is("cut 1", 0).is("forget", 2).is("clear", 2);
        run.is("back 0", 0).is("count 2", 0).is("count 3", 0).is("trace", 1).is("cut 1", 3);
    }

    private static void keptAnew() {
        Run run = Run.of(due, "30 An IMAGE is kept: YEARS", THREE);
        run.is("keep 0", 0).is("year", 3).is("ropes 0 2", 0).is("keep 0", 1).is("undo", 1).is("undo", 0).is("now 0", 0);
        run.is("back 0", 1).is("man 0 5", 2).is("keep 1", 1).is("ropes 0 3", 2).is("year", 2).is("back 1", 1).is("man 0 5", 2);
        run.is("ropes 0 1", 2).is("keep 1", 1).is("back 0", 1).is("man 0 5", 2).is("back 1", 1).is("man 0 5", 1);
    }

    private static void nothingUndoneBehindBack() {
        Run run = Run.of(due, "31 nothing can be UNDONE behind back()", THREE);
        run.times(10, "year").is("keep 0", 10).is("now 5", 10).is("back 0", 10).is("now 5", 0).is("undo", STATE).is("now 0", 10);
        run.is("ropes 0 1", 0).is("now 5", 1).is("undo", 0).is("man 0 5", 0).is("undo", STATE).is("now 0", 10);
        run.is("ropes 0 1", 0).is("back 1", STATE).is("back 2", BAD).is("now 5", 1).is("undo", 0);
        run.times(11, "ropes 0 3").is("now 5", 10).is("back 0", 10).is("undo", STATE).is("man 0 5", 0);
    }

    private static void imagesAreGone() {
        Run run = Run.of(due, "31 Read anew: IMAGES are gone", THREE);
        run.is("keep 0", 0).is("keep 1", 0).typed("c1 1").is("valley", -14).is("back 0", 0).is("back 1", 0);
        run.is("type 59", 5).is("valley", 1).is("back 0", STATE).is("back 1", STATE).is("keep 1", 0).is("back 0", STATE);
        run.is("back 1", 0);
    }

    private static void counts() {
        Run run = new Run(due, "32 CROPS, MEN, STUBBLE, letters of THE TEXT");
        run.is("count 0", 0).is("count 1", 0).is("count 2", 0).is("count 3", 0).is("count 4", BAD).is("count -1", BAD);
        run.is("count " + Run.LOW, BAD).is("count " + Run.HIGH, BAD);
        String text = "c1 1;c1 1;c1 1;" + "m1 1 1 1 1 1;".repeat(6);
        run.typed(text).is("count 3", text.length()).is("count 0", 0).is("valley", 9);
        run.is("count 0", 3).is("count 1", 6).is("count 2", 0).is("count 3", 0).times(6, "stubble 5 180").is("count 2", 5);
        run.times(201, "type 0").is("count 3", 200).is("clear", 200).is("count 3", 0).is("forget", 5).is("count 2", 0);
    }
}
