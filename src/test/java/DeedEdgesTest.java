/** Promises 5 to 16: ROPES, RAIN, MULES, MARRIED, STORED, YEARS and UNDONE at their bounds. */
public final class DeedEdgesTest {
    private static final int BAD = Run.BAD, STATE = Run.STATE, NONE = Run.NONE, NO = Run.NO;
    private static final Due due = new Due();
    private static final String THREE = "c2 3;c5 7;m10 2 20 30 12;m4 3 50 25 40;m7 1 9 6 2;";
    private static final String SIX = "c1 1;m1 1 0 1;m2 1 0 2;m3 1 0 3;m4 1 0 4;m5 1 0 5;m6 1 0 6;";

    public static void main(String[] args) {
        atFirst();
        ropes();
        carriesAtMost();
        liftIsCut();
        takesNoMore();
        sowing();
        rain();
        mules();
        marriedOverAgainst();
        marriedToOneAlone();
        marriedAmongSix();
        marriedAlike();
        yearCounts();
        storedAtMost();
        storedAtLeast();
        storedComesBackFromTheBound();
        noneUndone();
        tenUndone();
        olderOnesAreLost();
        undoneAndDoneAgain();
        eachDeedUndone();
        whatIsNoDeed();
        refusedAreNotUndone();
        deedsThatChangeNothing();
        due.end();
    }

    private static void atFirst() {
        Run run = Run.of(due, "5 at first: CROP 0, no ROPES, no MULE, nothing STORED", SIX);
        run.each("man # 3", 0, 0, 0, 0, 0, 0, BAD).each("man # 4", 1, 0, 3, 2, 5, 4, BAD);
        run.each("man # 5", 0, 0, 0, 0, 0, 0, BAD).each("man # 6", 0, 0, 0, 0, 0, 0, BAD);
        run.each("has # 3", 0, 0, 0, 0, 0, 0, NO).is("now 0", 0).is("now 1", 0).is("now 2", 0).is("now 5", 0);
    }

    private static void ropes() {
        Run run = Run.of(due, "12 ROPES of a MAN (0 .. 3)", "c1 1;m1 1 0 0;m1 1 0 40;");
        for (int had = 0; had <= 3; had++) {
            for (int n = 0; n <= 3; n++) {
                run.ask("ropes 0 " + had);
                run.is("ropes 0 " + n, had).is("man 0 5", n).is("carries 0 0", 1 + 3 * n).is("now 2", n);
            }
        }
        run.is("ropes 0 3", 3).is("ropes 1 3", 0).is("now 2", 6).is("ropes 0 4", BAD).is("ropes 0 -1", BAD);
        run.is("man 0 5", 3).is("man 1 5", 3).is("ropes 0 0", 3).is("now 2", 3);
        Run all = Run.of(due, "9 ROPES of all, at most", SIX);
        all.each("ropes # 3", 0, 0, 0, 0, 0, 0, BAD).is("now 2", 18);
    }

    private static void carriesAtMost() {
        Run run = Run.of(due, "7 CARRIES at its greatest", "c1 9;c9 9;m20 9 99 40 40;m1 0 0 40 40;");
        run.is("carries 0 0", 9 * 20).is("carries 0 1", 9 * 2).is("carries 1 0", 0).is("carries 1 1", 0);
        run.is("ropes 0 3", 0).is("mules 0 1", 0).is("mules 1 1", 0);
        run.is("carries 0 0", 18 * 29).is("carries 0 1", 18 * 3).is("carries 1 0", 0);
        run.is("rains 1", 0).is("carries 0 0", 18 * 14).is("carries 0 1", 18 * 2).is("has 0 0", 40).is("has 0 2", 720);
    }

    private static void liftIsCut() {
        Run run = Run.of(due, "7 by WEIGHT (1 more, if it RAINS), cut", "c9 1;c8 1;c5 1;m9 1 0 0 0 0;m8 1 0 0 0 0;m17 2 0 0 0 0;");
        run.each("carries # 0", 1, 0, 2 * 1).each("carries # 1", 1, 1, 2 * 2).each("carries # 2", 1, 1, 2 * 3);
        run.is("rains 1", 0).each("carries # 0", 0, 0, 2 * 1).each("carries # 1", 1, 0, 2 * 1).each("carries # 2", 1, 1, 2 * 2);
        run.is("ropes 1 1", 0).is("carries 1 0", 1).is("carries 1 1", 1).is("ropes 1 0", 1).is("carries 1 0", 0);
    }

    private static void takesNoMore() {
        Run run = Run.of(due, "8 no more than the other one's YIELD", "c1 2;m1 5 0 7;m1 4 0 5;m1 9 0 3;");
        run.is("has 0 0", 5).is("has 1 1", 0).is("has 1 0", 4).is("has 0 1", 3).is("has 0 2", 16).is("has 1 2", 8);
        run.is("mules 0 1", 0).is("carries 0 0", 10).is("has 0 0", 5).is("has 1 1", 0);
        run.is("has 2 0", 0).is("has 2 1", 3).is("has 2 2", 6);
        Run nothing = Run.of(due, "8 a YIELD of nothing", "c1 9;m20 9 0 0;m20 9 0 0;");
        nothing.each("has # 0", 0, 0, NO).each("has # 1", 0, 0, NO).each("has # 2", 0, 0, NO).is("now 4", 0);
    }

    private static void sowing() {
        Run run = Run.of(due, "10 the CROP till then", "c1 1;c1 2;c1 3;m1 0 0 1 2 3;");
        run.is("sows 0 2", 0).is("has 0 2", 9).is("sows 0 1", 2).is("has 0 2", 4).is("sows 0 3", BAD).is("sows 0 -1", BAD);
        run.is("sows 0 0", 1).is("has 0 2", 1).is("sows 1 0", BAD).is("man 0 3", 0).is("now 5", 3);
        Run one = Run.of(due, "10 where there is one CROP", "c1 1;m1 0 0 1;");
        one.is("sows 0 0", 0).is("sows 0 1", BAD).is("now 5", 1);
    }

    private static void rain() {
        Run run = new Run(due, "11 RAIN comes or goes: what it was");
        run.is("rains 0", 0).is("rains 1", 0).is("rains 1", 1).is("rains 2", BAD).is("rains -1", BAD).is("now 1", 1);
        run.is("rains 0", 1).is("now 1", 0).is("rains 2", BAD).is("now 1", 0).is("now 5", 4);
    }

    private static void mules() {
        Run run = Run.of(due, "13 a MAN has one, or not", SIX);
        run.is("mules 5 1", 0).is("mules 5 1", 1).is("mules 5 2", BAD).is("mules 5 -1", BAD).is("mules 6 1", BAD);
        run.each("man # 6", 0, 0, 0, 0, 0, 1).is("carries 5 0", 12).is("mules 5 0", 1).is("carries 5 0", 6);
        run.is("mules 5 0", 0).is("now 5", 4);
    }

    private static void marriedOverAgainst() {
        Run run = Run.of(due, "14 two that OPPOSE one another go on so", SIX);
        run.is("marries 0 1", 1).each("man # 4", 1, 0, 3, 2, 5, 4).is("marries 1 0", 0).is("marries 5 4", 4);
        run.each("man # 4", 1, 0, 3, 2, 5, 4).is("now 5", 3).is("undo", 2).each("man # 4", 1, 0, 3, 2, 5, 4);
        Run two = Run.of(due, "14 two alone in the valley", "c1 1;m1 1 1 1;m1 1 1 1;");
        two.is("marries 0 1", 1).is("marries 1 0", 0).each("man # 4", 1, 0, BAD);
    }

    private static void marriedToOneAlone() {
        Run run = Run.of(due, "14 one who OPPOSES nobody", THREE);
        run.is("marries 2 0", 1).each("man # 4", NONE, 2, 1);
        run.is("marries 2 0", NONE).each("man # 4", 1, 0, NONE);
        run.is("marries 1 2", NONE).each("man # 4", 2, NONE, 0);
        run.is("marries 2 0", 0).each("man # 4", 2, NONE, 0);
        run.is("marries 1 2", 0).each("man # 4", 1, 0, NONE);
        run.is("undo", 4).each("man # 4", 2, NONE, 0);
        Run five = Run.of(due, "14 those then OPPOSE them, too", "c1 1;" + "m1 1 1 1;".repeat(5));
        five.is("marries 4 2", 3).each("man # 4", 1, 0, NONE, 4, 3).is("marries 0 2", NONE).each("man # 4", NONE, 2, 1, 4, 3);
    }

    private static void marriedAmongSix() {
        Run run = Run.of(due, "14 two MEN exchange whom they OPPOSE", SIX);
        run.is("marries 0 5", 4).each("man # 4", 4, 5, 3, 2, 0, 1);
        run.is("marries 5 0", 4).each("man # 4", 1, 0, 3, 2, 5, 4);
        run.is("marries 1 2", 3).each("man # 4", 2, 3, 0, 1, 5, 4);
        run.is("marries 3 4", 5).each("man # 4", 2, 4, 0, 5, 1, 3);
        run.is("undo", 3).is("undo", 2).is("undo", 1).is("undo", 0).each("man # 4", 1, 0, 3, 2, 5, 4);
    }

    private static void marriedAlike() {
        Run run = Run.of(due, "14 BAD (alike, too)", THREE);
        run.each("marries # #", BAD, BAD, BAD, BAD).is("marries 0 3", BAD).is("marries 3 0", BAD).is("marries -1 -1", BAD);
        run.each("man # 4", 1, 0, NONE).is("now 5", 0);
        Run one = Run.of(due, "14 one man alone", "c1 1;m1 1 1 1;");
        one.is("marries 0 0", BAD).is("marries 0 1", BAD).is("now 5", 0);
    }

    private static void yearCounts() {
        Run run = Run.of(due, "15 how many HAD what they NEED", "c1 1;m1 0 5 5;m1 0 6 5;m1 0 0 0;m1 0 99 40;m1 0 1 0;");
        run.is("year", 2).each("has # 3", 0, -1, 0, -59, -1).is("now 0", 1).is("year", 2).each("has # 3", 0, -2, 0, -118, -2);
        run.is("now 0", 2).is("undo", 1).each("has # 3", 0, -1, 0, -59, -1).is("now 0", 1);
        Run nobody = new Run(due, "15 YEARS are counted where nobody is");
        nobody.times(500, "year").is("now 0", 500).is("year", 0).is("now 0", 501);
    }

    private static void storedAtMost() {
        // 360, 1 or 270 in a year, and no needs.
        Run run = Run.of(due, "15 STORED, 9999 at most", "c1 9;c1 1;c1 9;m1 0 0 40 1 30;");
        run.times(27, "year").is("has 0 3", 9720).is("sows 0 2", 0).is("year", 1).is("has 0 3", 9990);
        run.is("sows 0 1", 2).times(8, "year").is("has 0 3", 9998).is("year", 1).is("has 0 3", 9999);
        run.is("year", 1).is("has 0 3", 9999).is("undo", 9).is("has 0 3", 9999).is("undo", 8).is("has 0 3", 9998);
        run.is("sows 0 0", 1).is("year", 1).is("has 0 3", 9999).is("rich 0 9999", 0).is("now 0", 37);
    }

    private static void storedAtLeast() {
        // 99, 1 or 98 too little in a year.
        Run run = Run.of(due, "15 STORED, -9999 at least", "c1 1;c1 7;c1 1;m1 0 99 0 14 1;");
        run.is("sows 0 2", 0).is("year", 0).is("has 0 3", -98).is("sows 0 0", 2).times(100, "year").is("has 0 3", -9998);
        run.is("sows 0 1", 0).is("year", 0).is("has 0 3", -9999).is("year", 0).is("has 0 3", -9999);
        run.is("undo", 9).is("has 0 3", -9999).is("undo", 8).is("has 0 3", -9998);
        run.is("sows 0 0", 1).is("year", 0).is("has 0 3", -9999).is("poor", 0).is("rich 0 -9999", 0).is("rich 0 -9998", NONE);
    }

    private static void storedComesBackFromTheBound() {
        // 261 more, or 99 less, in a year.
        Run run = Run.of(due, "15 what was beyond the bound is gone", "c1 9;c1 1;m1 0 99 40 0;");
        run.times(38, "year").is("has 0 3", 9918).is("year", 1).is("has 0 3", 9999).is("sows 0 1", 0);
        run.is("year", 0).is("has 0 3", 9900).times(200, "year").is("has 0 3", -9900).is("year", 0).is("has 0 3", -9999);
        run.is("year", 0).is("has 0 3", -9999).is("sows 0 0", 1).is("year", 1).is("has 0 3", -9738);
    }

    private static void noneUndone() {
        Run run = Run.of(due, "16 STATE: none", THREE);
        run.is("now 5", 0).is("undo", STATE).is("undo", STATE).is("now 5", 0).is("sows 0 1", 0).is("undo", 0);
        run.is("undo", STATE).is("man 0 3", 0).is("rains 1", 0).is("now 5", 1).is("undo", 0).is("now 5", 0);
    }

    private static void tenUndone() {
        for (int deeds = 0; deeds <= 12; deeds++) {
            Run run = new Run(due, "16 10 are known, of " + deeds);
            run.times(deeds, "year").is("now 0", deeds).is("now 5", Math.min(deeds, 10));
            int known = Math.min(deeds, 10);
            for (int left = known - 1; left >= 0; left--) {
                run.is("undo", left).is("now 5", left).is("now 0", deeds - known + left);
            }
            run.is("undo", STATE).is("now 0", deeds - known).is("now 5", 0);
        }
    }

    private static void olderOnesAreLost() {
        Run run = Run.of(due, "16 older ones are lost", THREE);
        run.is("sows 0 1", 0).is("mules 1 1", 0).times(9, "year").is("now 5", 10).times(10, "undo");
        run.is("now 5", 0).is("undo", STATE).is("man 1 6", 0).is("man 0 3", 1).is("now 0", 0);
    }

    private static void undoneAndDoneAgain() {
        // 7 done, 4 undone, 13 done, 6 undone, 3 done: the known ones go round more than once.
        Run run = Run.of(due, "16 the latest, wherever it stands", THREE);
        int[] steps = {7, -4, 13, -6, 3, -7, 12, -10};
        int[] ropesThen = new int[64];
        int top = 0;
        int known = 0;
        int next = 1;
        for (int step : steps) {
            for (int i = 0; i < Math.abs(step); i++) {
                if (step > 0) {
                    run.is("ropes 0 " + next, ropesThen[top]);
                    top++;
                    ropesThen[top] = next;
                    known = Math.min(10, known + 1);
                    next = (next * 3 + 2) % 4;
                } else {
                    top--;
                    known--;
                    run.is("undo", known);
                }
                run.is("man 0 5", ropesThen[top]).is("now 5", known);
            }
        }
        run.is("undo", STATE);
    }

    private static void eachDeedUndone() {
        String[] deeds = {"sows 1 1", "rains 1", "ropes 2 3", "mules 0 1", "marries 0 2", "year"};
        for (String deed : deeds) {
            Run run = Run.of(due, "16 the latest is UNDONE", THREE);
            run.ask(deed);
            run.is("now 5", 1).is("undo", 0);
            run.each("man # 3", 0, 0, 0).each("man # 4", 1, 0, NONE).each("man # 5", 0, 0, 0).each("man # 6", 0, 0, 0);
            run.each("has # 3", 0, 0, 0).each("has # 2", 102, 63, 18).is("now 0", 0).is("now 1", 0).is("now 2", 0);
            run.is("undo", STATE);
        }
    }

    private static void whatIsNoDeed() {
        Run run = Run.of(due, "16 sows, rains, ropes, mules, marries, year alone are UNDONE", THREE);
        run.is("rains 1", 0).is("type 99", 1).is("now 5", 1).is("stubble 0 4", 1).is("now 5", 1).is("keep 0", 0).is("now 5", 1);
        run.ask("rate 0 0");
        run.is("now 5", 1).is("undo", 0).is("now 1", 0).is("count 3", 1).is("count 2", 1).is("trace", 1);
        run.is("undo", STATE).is("back 0", 0).is("now 1", 1);
        run.is("rains 0", 1).is("clear", 1).is("forget", 1).is("now 5", 1).is("undo", 0).is("count 3", 0).is("count 2", 0);
        run.is("rains 0", 1).is("rains 1", 0).is("undo", 1).is("undo", 0).is("now 1", 1).is("undo", STATE);
    }

    private static void refusedAreNotUndone() {
        String[] refused = {
            "sows 3 0", "sows 0 2", "rains 2", "ropes 3 0", "ropes 0 4", "mules 3 0", "mules 0 2", "marries 0 0",
            "marries 0 3", "stubble 3 0", "keep 2", "back 2", "back 1", "type 256", "best 3 0 0", "rest 2 0",
        };
        Run run = Run.of(due, "16 that was not refused", THREE);
        run.is("undo", STATE).is("ropes 1 2", 0);
        for (String call : refused) {
            run.ask(call);
            run.is("now 5", 1);
        }
        run.is("undo", 0).is("man 1 5", 0).is("undo", STATE);
    }

    private static void deedsThatChangeNothing() {
        Run run = Run.of(due, "16 a deed that changes nothing was not refused", THREE);
        run.is("sows 0 0", 0).is("now 5", 1).is("rains 0", 0).is("now 5", 2).is("ropes 0 0", 0).is("now 5", 3);
        run.is("mules 0 0", 0).is("now 5", 4).is("marries 0 1", 1).is("now 5", 5).is("undo", 4).is("undo", 3);
    }
}
