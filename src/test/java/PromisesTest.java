/** For each promise of the document: ordinary calls, the edges it names, and wrong ones. */
public final class PromisesTest {
    private static final int BAD = -1, STATE = -2, FULL = -3, NONE = -9, NO = -1000000;
    private static final int LOW = Integer.MIN_VALUE, HIGH = Integer.MAX_VALUE;
    private static final Due due = new Due();

    /** Two crops; a strong man with short legs of need, a weak one, and one who is alone. */
    private static final String THREE = "c 2 3; c 5 7; m 10 2 20 30 12; m 4 3 50 25 40; m 7 1 9 6 2;";
    private static final String FOUR =
            "c2 1;c5 3;c3 2;m12 3 30 20 10 12;m4 2 25 16 9 14;m7 4 40 18 6 10;m20 1 10 8 12 9;";
    private static final String SIX = "c1 1;m1 1 0 1;m2 1 0 2;m3 1 0 3;m4 1 0 4;m5 1 0 5;m6 1 0 6;";

    public static void main(String[] args) {
        promise1();
        promise2();
        promise3();
        promise4();
        promise4Faults();
        promise4Anew();
        promise5();
        promise6();
        promise7();
        promise8();
        promise9();
        promise10();
        promise11();
        promise12();
        promise13();
        promise14();
        promise15();
        promise15Bounds();
        promise16();
        promise17();
        promise18();
        promise19();
        promise20();
        promise21();
        promise22();
        promise23();
        promise24();
        promise25();
        promise26();
        promise27();
        promise28();
        promise29();
        promise30();
        promise31();
        promise32();
        promise33();
        due.end();
    }

    private static void typed(FacingFields x, String text) {
        for (int i = 0; i < text.length(); i++) {
            x.type(text.charAt(i));
        }
    }

    private static FacingFields of(String text) {
        FacingFields x = new FacingFields();
        typed(x, text);
        int items = x.valley();
        due.holds("a text that can be read: " + text, items >= 0);
        return x;
    }

    private static void promise1() {
        FacingFields x = new FacingFields();
        for (int what = 0; what < 4; what++) {
            due.is("1 count " + what, x.count(what), 0);
        }
        for (int what = 0; what < 6; what++) {
            due.is("1 now " + what, x.now(what), 0);
        }
        due.is("1 trace", x.trace(), 0);
        due.is("1 man", x.man(0, 0), BAD);
        due.is("1 yieldOf", x.yieldOf(0, 0), BAD);
        due.is("1 carries", x.carries(0, 0), BAD);
        due.is("1 has", x.has(0, 0), NO);
        due.is("1 sows", x.sows(0, 0), BAD);
        due.is("1 faces", x.faces(-1), NO);
        due.is("1 needed", x.needed(-1), 0);
        due.is("1 poor", x.poor(), NONE);
        due.is("1 back", x.back(0), STATE);
        due.is("1 undo", x.undo(), STATE);
    }

    private static void promise2() {
        FacingFields x = new FacingFields();
        due.is("2 least letter", x.type(0), 1);
        due.is("2 greatest letter", x.type(255), 2);
        due.is("2 below", x.type(-1), BAD);
        due.is("2 above", x.type(256), BAD);
        due.is("2 far above", x.type(HIGH), BAD);
        due.is("2 far below", x.type(LOW), BAD);
        due.is("2 nothing came", x.count(3), 2);
        for (int i = 3; i <= 200; i++) {
            due.is("2 letter " + i, x.type('c'), i);
        }
        due.is("2 full", x.type('c'), FULL);
        due.is("2 bad ahead of full", x.type(256), BAD);
        due.is("2 still 200", x.count(3), 200);
        due.is("2 the first letter stands", x.valley(), -10);
    }

    private static void promise3() {
        FacingFields x = of(THREE);
        due.is("3 empty", x.clear(), 0);
        typed(x, "c 1 1;");
        due.is("3 had six", x.clear(), 6);
        due.is("3 has none", x.count(3), 0);
        due.is("3 men stay", x.count(1), 3);
        due.is("3 typing goes on", x.type('c'), 1);
    }

    private static void promise4() {
        FacingFields x = new FacingFields();
        typed(x, THREE);
        due.is("4 items", x.valley(), 5);
        due.is("4 empty then", x.count(3), 0);
        due.is("4 crops", x.count(0), 2);
        due.is("4 men", x.count(1), 3);
        due.is("4 an empty text", x.valley(), 0);
        due.is("4 no crops then", x.count(0), 0);
        due.is("4 nobody then", x.count(1), 0);
        reads("   ", 0);
        reads("c1 1;", 1);
        reads("c9 9;c1 1;c5 5;", 3);
        reads("  c  9  9  ;m  20 9  99 40 ; ", 2);
        reads("c1 1;m1 0 0 0;", 2);
        reads(SIX, 7);
    }

    private static void reads(String text, int items) {
        FacingFields x = new FacingFields();
        typed(x, text);
        due.is("4 reading '" + text + "'", x.valley(), items);
    }

    private static void fault(String text, int place) {
        FacingFields x = of("c 4 4; m 5 5 5 5;");
        typed(x, text);
        due.is("4 fault of '" + text + "'", x.valley(), -10 - place);
        due.is("4 the text stays", x.count(3), text.length());
        due.is("4 the crop stays", x.count(0), 1);
        due.is("4 the man stays", x.man(0, 0), 5);
    }

    private static void promise4Faults() {
        fault("c 0 1;", 2);
        fault("c 10 1;", 2);
        fault("c 1 0;", 4);
        fault("c 1 10;", 4);
        fault("c 1;", 3);
        fault("c 1 1 1;", 6);
        fault("c c 1;", 2);
        fault("c;", 1);
        fault(";", 0);
        fault(" ;", 1);
        fault("5", 0);
        fault("c1 1;;", 5);
        fault("c1 1;5", 5);
        fault("m1 1 1;", 0);
        fault("c1 1;c1 1;c1 1;c1 1;", 15);
        fault("c1 1;m1 1 1 1;c1 1;", 14);
        fault(SIX + " m1 1 1 1;", SIX.length() + 1);
        fault("c1 1;m0 1 1 1;", 6);
        fault("c1 1;m21 1 1 1;", 6);
        fault("c1 1;m1 10 1 1;", 8);
        fault("c1 1;m1 1 100 1;", 10);
        fault("c1 1;m1 1 1 41;", 12);
        fault("c1 1;m1 1 1;", 11);
        fault("c1 1;m1 1 1 1 1;", 14);
        fault("c1 1;c1 1;m1 1 1 1;", 18);
        fault("c1 1;m1 1 1 m", 12);
        fault("c 01 1;", 2);
        fault("c1 1;m1 1 1 00;", 12);
        fault("c1 1;m1 1 007 1;", 10);
        fault("c1 1;m1 1 99999999999999999999 1;", 10);
        fault("c1 1;m1 1 4294967297 1;", 10);
        fault("x", 0);
        fault("C1 1;", 0);
        fault("c1,1;", 2);
        fault("c-1 1;", 1);
        fault("c1\t1;", 2);
        fault("c1 1x;", 4);
        fault("c0 1;x", 1);
        fault("x;c0", 0);
        fault("c" + (char) 0, 1);
        fault("c" + (char) 255, 1);
        fault("c", 1);
        fault("c1", 2);
        fault("c1 1", 4);
        fault("c1 1   ", 7);
        fault("c1 1;m", 6);
        fault("c1 1;m1 1 1 1", 13);
        fault("c1 1;m1 1 1 ", 12);
    }

    private static void promise4Anew() {
        FacingFields x = of(THREE);
        x.sows(0, 1);
        x.rains(1);
        x.ropes(1, 3);
        x.mules(2, 1);
        x.marries(0, 2);
        x.year();
        x.stubble(0, 4);
        x.keep(0);
        x.keep(1);
        x.rate(0, 0);
        typed(x, THREE);
        due.is("4 anew", x.valley(), 5);
        due.is("4 sown anew", x.man(0, 3), 0);
        due.is("4 ropes anew", x.man(1, 5), 0);
        due.is("4 mules anew", x.man(2, 6), 0);
        due.is("4 facing anew", x.man(0, 4), 1);
        due.is("4 alone anew", x.man(2, 4), NONE);
        due.is("4 nothing stored", x.has(0, 3), 0);
        due.is("4 no rain", x.now(1), 0);
        due.is("4 no years", x.now(0), 0);
        due.is("4 no stubble", x.count(2), 0);
        due.is("4 image 0 is gone", x.back(0), STATE);
        due.is("4 image 1 is gone", x.back(1), STATE);
        due.is("4 nothing to be undone", x.now(5), 0);
        due.is("4 none is undone", x.undo(), STATE);
        due.is("4 the trace stays", x.trace(), 1);
    }

    private static void promise5() {
        FacingFields x = of(THREE);
        int[][] want = {{10, 2, 20, 0, 1, 0, 0}, {4, 3, 50, 0, 0, 0, 0}, {7, 1, 9, 0, NONE, 0, 0}};
        for (int m = 0; m < 3; m++) {
            for (int what = 0; what < 7; what++) {
                due.is("5 man " + m + " " + what, x.man(m, what), want[m][what]);
            }
        }
        x.sows(1, 1);
        x.ropes(1, 2);
        x.mules(1, 1);
        due.is("5 sows", x.man(1, 3), 1);
        due.is("5 ropes", x.man(1, 5), 2);
        due.is("5 mule", x.man(1, 6), 1);
        FacingFields six = of(SIX);
        for (int m = 0; m < 6; m++) {
            due.is("5 at first " + m, six.man(m, 4), m ^ 1);
        }
        int[] wrong = {-1, 3, 6, LOW, HIGH};
        for (int m : wrong) {
            due.is("5 no man " + m, x.man(m, 0), BAD);
        }
        due.is("5 what -1", x.man(0, -1), BAD);
        due.is("5 what 7", x.man(0, 7), BAD);
    }

    private static void promise6() {
        FacingFields x = of(THREE);
        int[][] want = {{30, 12}, {25, 40}, {6, 2}};
        for (int m = 0; m < 3; m++) {
            for (int crop = 0; crop < 2; crop++) {
                due.is("6 yield " + m + " " + crop, x.yieldOf(m, crop), want[m][crop]);
            }
            due.is("6 crop -1", x.yieldOf(m, -1), BAD);
            due.is("6 crop 2", x.yieldOf(m, 2), BAD);
        }
        due.is("6 man -1", x.yieldOf(-1, 0), BAD);
        due.is("6 man 3", x.yieldOf(3, 0), BAD);
        due.is("6 far", x.yieldOf(HIGH, LOW), BAD);
    }

    private static void promise7() {
        FacingFields x = of(THREE);
        due.is("7 whole", x.carries(0, 0), 2 * 5);
        due.is("7 cut", x.carries(2, 0), 3);
        due.is("7 too heavy", x.carries(1, 1), 0);
        x.ropes(1, 1);
        due.is("7 a rope", x.carries(1, 1), 3);
        x.ropes(1, 3);
        due.is("7 three ropes", x.carries(1, 0), 3 * 6);
        x.mules(1, 1);
        due.is("7 a mule", x.carries(1, 0), 6 * 6);
        x.rains(1);
        due.is("7 rain", x.carries(1, 0), 6 * 4);
        due.is("7 rain on the heavy", x.carries(0, 1), 2 * 1);
        due.is("7 man -1", x.carries(-1, 0), BAD);
        due.is("7 man 3", x.carries(3, 0), BAD);
        due.is("7 crop -1", x.carries(0, -1), BAD);
        due.is("7 crop 2", x.carries(0, 2), BAD);
        FacingFields legless = of("c1 1;m20 0 0 5;");
        due.is("7 no legs", legless.carries(0, 0), 0);
    }

    private static void promise8() {
        FacingFields x = of(THREE);
        due.is("8 takes", x.has(0, 0), 10);
        due.is("8 takes", x.has(1, 0), 6);
        due.is("8 kept", x.has(0, 1), 24);
        due.is("8 kept", x.has(1, 1), 15);
        due.is("8 has", x.has(0, 2), 34 * 3);
        due.is("8 has", x.has(1, 2), 21 * 3);
        due.is("8 alone takes", x.has(2, 0), 0);
        due.is("8 alone keeps", x.has(2, 1), 6);
        due.is("8 alone has", x.has(2, 2), 18);
        due.is("8 nothing stored", x.has(0, 3), 0);
        x.sows(1, 1);
        due.is("8 takes of the heavy", x.has(0, 0), 4);
        due.is("8 has by two crops", x.has(0, 2), 4 * 7 + 24 * 3);
        due.is("8 the other keeps", x.has(1, 1), 36);
        x.year();
        due.is("8 stored", x.has(0, 3), 100 - 20);
        FacingFields few = of("c1 2;m20 9 0 5;m20 9 0 3;");
        due.is("8 no more than grows", few.has(0, 0), 3);
        due.is("8 nothing kept", few.has(1, 1), 0);
        due.is("8 has what he took", few.has(1, 2), 10);
        int[] wrong = {-1, 3, LOW, HIGH};
        for (int m : wrong) {
            due.is("8 no man " + m, x.has(m, 0), NO);
        }
        due.is("8 what -1", x.has(0, -1), NO);
        due.is("8 what 4", x.has(0, 4), NO);
    }

    private static void promise9() {
        FacingFields x = of(FOUR);
        due.is("9 hungry", x.now(3), 6);
        due.is("9 what all have", x.now(4), 62);
        x.rains(1);
        x.ropes(0, 3);
        x.ropes(2, 2);
        x.year();
        x.year();
        due.is("9 years", x.now(0), 2);
        due.is("9 rain", x.now(1), 1);
        due.is("9 ropes", x.now(2), 5);
        due.is("9 to be undone", x.now(5), 5);
        x.undo();
        due.is("9 years less one", x.now(0), 1);
        due.is("9 to be undone, less one", x.now(5), 4);
        due.is("9 what -1", x.now(-1), BAD);
        due.is("9 what 6", x.now(6), BAD);
        due.is("9 far", x.now(LOW), BAD);
    }

    private static void promise10() {
        FacingFields x = of(THREE);
        due.is("10 till then", x.sows(0, 1), 0);
        due.is("10 sown", x.man(0, 3), 1);
        due.is("10 till then", x.sows(0, 1), 1);
        due.is("10 till then", x.sows(0, 0), 1);
        due.is("10 man -1", x.sows(-1, 0), BAD);
        due.is("10 man 3", x.sows(3, 0), BAD);
        due.is("10 crop -1", x.sows(0, -1), BAD);
        due.is("10 crop 2", x.sows(0, 2), BAD);
        due.is("10 refused are not known", x.now(5), 3);
        due.is("10 refused change nothing", x.man(0, 3), 0);
    }

    private static void promise11() {
        FacingFields x = new FacingFields();
        due.is("11 it was dry", x.rains(1), 0);
        due.is("11 it rained", x.rains(1), 1);
        due.is("11 it rained", x.rains(0), 1);
        due.is("11 it was dry", x.rains(0), 0);
        due.is("11 2", x.rains(2), BAD);
        due.is("11 -1", x.rains(-1), BAD);
        due.is("11 refused are not known", x.now(5), 4);
        due.is("11 dry", x.now(1), 0);
    }

    private static void promise12() {
        FacingFields x = of(THREE);
        due.is("12 had none", x.ropes(2, 3), 0);
        due.is("12 had three", x.ropes(2, 1), 3);
        due.is("12 had one", x.ropes(2, 0), 1);
        due.is("12 man -1", x.ropes(-1, 0), BAD);
        due.is("12 man 3", x.ropes(3, 0), BAD);
        due.is("12 -1 ropes", x.ropes(0, -1), BAD);
        due.is("12 4 ropes", x.ropes(0, 4), BAD);
        due.is("12 refused are not known", x.now(5), 3);
        due.is("12 ropes of all", x.now(2), 0);
    }

    private static void promise13() {
        FacingFields x = of(THREE);
        due.is("13 had none", x.mules(1, 1), 0);
        due.is("13 had one", x.mules(1, 1), 1);
        due.is("13 had one", x.mules(1, 0), 1);
        due.is("13 had none", x.mules(1, 0), 0);
        due.is("13 man -1", x.mules(-1, 0), BAD);
        due.is("13 man 3", x.mules(3, 0), BAD);
        due.is("13 is 2", x.mules(0, 2), BAD);
        due.is("13 is -1", x.mules(0, -1), BAD);
        due.is("13 refused are not known", x.now(5), 4);
    }

    private static void facing(String what, FacingFields x, int... want) {
        for (int m = 0; m < want.length; m++) {
            due.is(what + ", man " + m, x.man(m, 4), want[m]);
        }
    }

    private static void promise14() {
        FacingFields x = of(FOUR);
        due.is("14 then", x.marries(0, 2), 3);
        facing("14 exchanged", x, 3, 2, 1, 0);
        due.is("14 over against one another", x.marries(1, 2), 2);
        facing("14 they go on so", x, 3, 2, 1, 0);
        due.is("14 then", x.marries(3, 1), 2);
        facing("14 exchanged again", x, 1, 0, 3, 2);
        due.is("14 all are known", x.now(5), 3);
        FacingFields odd = of(THREE);
        due.is("14 whom nobody was over", odd.marries(0, 2), NONE);
        facing("14 one alone", odd, NONE, 2, 1);
        due.is("14 the other way", odd.marries(0, 1), 2);
        facing("14 another alone", odd, 2, NONE, 0);
        due.is("14 alike", x.marries(1, 1), BAD);
        due.is("14 a -1", x.marries(-1, 1), BAD);
        due.is("14 b -1", x.marries(1, -1), BAD);
        due.is("14 a 4", x.marries(4, 1), BAD);
        due.is("14 b 4", x.marries(1, 4), BAD);
        due.is("14 refused are not known", x.now(5), 3);
    }

    private static void promise15() {
        FacingFields x = of("c1 1;m1 0 5 5;m1 0 6 5;m1 0 0 0;");
        due.is("15 two had", x.year(), 2);
        due.is("15 just enough", x.has(0, 3), 0);
        due.is("15 too little", x.has(1, 3), -1);
        due.is("15 nothing", x.has(2, 3), 0);
        due.is("15 years", x.now(0), 1);
        due.is("15 again", x.year(), 2);
        due.is("15 two too little", x.has(1, 3), -2);
        FacingFields nobody = new FacingFields();
        for (int i = 1; i <= 500; i++) {
            due.is("15 nobody had", nobody.year(), 0);
        }
        due.is("15 500 years", nobody.now(0), 500);
        // What is beyond 512 calls is free; that the 999th year is the last one is looked at all the same.
        for (int i = 501; i <= 999; i++) {
            due.is("15 nobody had", nobody.year(), 0);
        }
        due.is("15 it is year 999", nobody.year(), STATE);
        due.is("15 still 999", nobody.now(0), 999);
        due.is("15 a refused year is not known", nobody.undo(), 9);
        due.is("15 the last one is undone", nobody.now(0), 998);
    }

    private static void promise15Bounds() {
        FacingFields x = of("c1 9;m1 0 0 40;m1 0 99 0;");
        for (int i = 0; i < 27; i++) {
            x.year();
        }
        due.is("15 ahead of the bound", x.has(0, 3), 9720);
        x.year();
        due.is("15 at the bound", x.has(0, 3), 9999);
        x.year();
        due.is("15 not beyond", x.has(0, 3), 9999);
        due.is("15 owing", x.has(1, 3), -99 * 29);
        for (int i = 29; i < 101; i++) {
            x.year();
        }
        due.is("15 at the lower bound", x.has(1, 3), -9999);
        x.year();
        due.is("15 not below", x.has(1, 3), -9999);
        x.undo();
        x.undo();
        due.is("15 undone by what was, not by what came", x.has(1, 3), -9900);
    }

    private static void promise16() {
        FacingFields x = of(THREE);
        x.sows(0, 1);
        x.rains(1);
        x.ropes(1, 2);
        x.mules(2, 1);
        x.marries(0, 2);
        x.year();
        due.is("16 the year", x.undo(), 5);
        due.is("16 no years", x.now(0), 0);
        due.is("16 nothing stored", x.has(2, 3), 0);
        due.is("16 the marriage", x.undo(), 4);
        facing("16 as it was", x, 1, 0, NONE);
        due.is("16 the mule", x.undo(), 3);
        due.is("16 no mule", x.man(2, 6), 0);
        due.is("16 the ropes", x.undo(), 2);
        due.is("16 no ropes", x.man(1, 5), 0);
        due.is("16 the rain", x.undo(), 1);
        due.is("16 dry", x.now(1), 0);
        due.is("16 the sowing", x.undo(), 0);
        due.is("16 sown as it was", x.man(0, 3), 0);
        due.is("16 none", x.undo(), STATE);
        for (int i = 0; i < 13; i++) {
            x.ropes(0, i % 4);
        }
        due.is("16 ten are known", x.now(5), 10);
        for (int i = 9; i >= 0; i--) {
            due.is("16 one less", x.undo(), i);
            due.is("16 the ropes ahead of it", x.man(0, 5), (i + 2) % 4);
        }
        due.is("16 older ones are lost", x.undo(), STATE);
        x.stubble(0, 1);
        x.rains(1);
        x.forget();
        x.undo();
        due.is("16 stubble is not undone", x.count(2), 0);
    }

    private static void promise17() {
        FacingFields x = of(FOUR);
        due.is("17 crop", x.best(0, 0, 0), 1);
        due.is("17 how much", x.best(0, 0, 1), 46);
        due.is("17 he comes for 4", x.best(0, 4, 0), 2);
        due.is("17 by the third", x.best(0, 4, 1), 16 + 10 * 2);
        due.is("17 none for 5", x.best(0, 5, 0), NONE);
        due.is("17 none for 5", x.best(0, 5, 1), NONE);
        due.is("17 none for 999", x.best(0, 999, 1), NONE);
        due.is("17 nothing changed", x.man(0, 3), 0);
        FacingFields alike = of("c1 2;c2 1;c1 2;m1 1 0 3 6 3;m1 0 0 1 1 1;");
        due.is("17 the lowest", alike.best(0, 0, 0), 0);
        due.is("17 its much", alike.best(0, 0, 1), 8);
        FacingFields alone = of("c1 1;c1 3;m1 1 0 9 4;");
        due.is("17 c does not matter", alone.best(0, 999, 0), 1);
        due.is("17 alone", alone.best(0, 999, 1), 12);
        due.is("17 man -1", x.best(-1, 0, 0), BAD);
        due.is("17 man 4", x.best(4, 0, 0), BAD);
        due.is("17 c -1", x.best(0, -1, 0), BAD);
        due.is("17 c 1000", x.best(0, 1000, 0), BAD);
        due.is("17 c 1000 for one alone", alone.best(0, 1000, 0), BAD);
        due.is("17 what -1", x.best(0, 0, -1), BAD);
        due.is("17 what 2", x.best(0, 0, 2), BAD);
    }

    private static void promise18() {
        FacingFields x = of(FOUR);
        due.is("18 one", x.rest(0, 0), 1);
        due.is("18 the first", x.rest(0, 1), 11);
        due.is("18 two", x.rest(2, 0), 2);
        due.is("18 his, the other's", x.rest(2, 1), 1);
        due.is("18 from the other side", x.rest(3, 0), 2);
        due.is("18 his, the other's", x.rest(3, 1), 10);
        due.is("18 nothing changed", x.man(2, 3), 0);
        FacingFields alike = of("c1 1;c1 1;c1 1;m1 0 0 5 5 5;m1 0 0 7 7 7;");
        due.is("18 all nine", alike.rest(0, 0), 9);
        due.is("18 the first of nine", alike.rest(0, 1), 0);
        FacingFields odd = of(THREE);
        due.is("18 alone", odd.rest(2, 0), STATE);
        due.is("18 bad ahead of state", odd.rest(2, 2), BAD);
        due.is("18 man -1", x.rest(-1, 0), BAD);
        due.is("18 man 4", x.rest(4, 0), BAD);
        due.is("18 what -1", x.rest(0, -1), BAD);
        due.is("18 what 2", x.rest(0, 2), BAD);
    }

    private static void promise19() {
        FacingFields x = of(FOUR);
        int[] want = {0, 1, 1, 0};
        for (int m = 0; m < 4; m++) {
            due.is("19 hungry " + m, x.hungry(m), want[m]);
        }
        FacingFields odd = of("c1 1;c1 2;m1 0 20 9 10;m1 0 21 9 10;m1 0 21 9 10;");
        due.is("19 just enough by the other crop", odd.hungry(0), 0);
        due.is("19 one too little", odd.hungry(1), 1);
        due.is("19 alone", odd.hungry(2), 1);
        due.is("19 bits", odd.now(3), 6);
        FacingFields fed = of("c9 1;c1 1;m1 9 9 0 0;m1 0 0 9 9;");
        due.is("19 fed by what the other sows", fed.hungry(0), 0);
        due.is("19 nothing changed", fed.man(1, 3), 0);
        due.is("19 man -1", x.hungry(-1), BAD);
        due.is("19 man 4", x.hungry(4), BAD);
    }

    private static void promise20() {
        FacingFields x = of(FOUR);
        due.is("20 how much", x.faces(-1), -17);
        int[] want = {3, 2, 1, 0};
        for (int m = 0; m < 4; m++) {
            due.is("20 whom " + m, x.faces(m), want[m]);
        }
        facing("20 nothing changed", x, 1, 0, 3, 2);
        FacingFields alike = of("c1 1;m1 0 0 1;m1 0 0 1;m1 0 0 1;m1 0 0 1;m1 0 0 1;");
        int[] first = {NONE, 2, 1, 4, 3};
        due.is("20 all alike", alike.faces(-1), 1);
        for (int m = 0; m < 5; m++) {
            due.is("20 nobody is ahead of all " + m, alike.faces(m), first[m]);
        }
        alike.marries(0, 4);
        due.is("20 whoever faces whom now", alike.faces(0), NONE);
        FacingFields one = of("c1 1;m1 1 7 3;");
        due.is("20 one man", one.faces(-1), -4);
        due.is("20 faces nobody", one.faces(0), NONE);
        due.is("20 man -2", x.faces(-2), NO);
        due.is("20 man 4", x.faces(4), NO);
        due.is("20 nobody is there", of("c1 1;").faces(-1), NO);
        due.is("20 far", x.faces(LOW), NO);
    }

    private static void promise21() {
        FacingFields none = of(FOUR);
        due.is("21 no way", none.needed(-1), NONE);
        due.is("21 no way for him", none.needed(0), NONE);
        FacingFields x = of("c4 1;m1 4 8 4;m1 1 0 40;m4 1 0 2;");
        due.is("21 one rope", x.needed(-1), 1);
        due.is("21 his", x.needed(0), 1);
        due.is("21 the other's", x.needed(1), 0);
        due.is("21 the lone one's", x.needed(2), 0);
        x.ropes(0, 3);
        x.ropes(2, 3);
        due.is("21 ropes that are there do not matter", x.needed(-1), 1);
        due.is("21 nor his", x.needed(2), 0);
        due.is("21 nothing changed", x.man(0, 5), 3);
        FacingFields both = of("c4 1;m1 1 41 40;m1 1 41 40;");
        due.is("21 what one takes the other lacks", both.needed(-1), NONE);
        FacingFields hungryAlone = of("c1 1;m1 1 4 3;");
        due.is("21 no ropes help one alone", hungryAlone.needed(-1), NONE);
        due.is("21 nobody needs any", of("c1 1;").needed(-1), 0);
        due.is("21 man -2", x.needed(-2), BAD);
        due.is("21 man 3", x.needed(3), BAD);
        due.is("21 man 3, no way", hungryAlone.needed(3), BAD);
    }

    private static void promise22() {
        FacingFields x = of(THREE);
        due.is("22 first", x.stubble(0, 0), 1);
        due.is("22 second", x.stubble(2, 180), 2);
        due.is("22 man -1", x.stubble(-1, 0), BAD);
        due.is("22 man 3", x.stubble(3, 0), BAD);
        due.is("22 -1 sheaves", x.stubble(0, -1), BAD);
        due.is("22 181 sheaves", x.stubble(0, 181), BAD);
        due.is("22 third", x.stubble(0, 7), 3);
        due.is("22 fourth", x.stubble(0, 7), 4);
        due.is("22 fifth", x.stubble(1, 7), 5);
        due.is("22 full", x.stubble(1, 7), FULL);
        due.is("22 bad ahead of full", x.stubble(1, 181), BAD);
        due.is("22 five", x.count(2), 5);
        due.is("22 it is nothing to be undone", x.now(5), 0);
    }

    private static void promise23() {
        FacingFields x = of(THREE);
        due.is("23 there was none", x.forget(), 0);
        x.stubble(0, 1);
        x.stubble(1, 1);
        due.is("23 there were two", x.forget(), 2);
        due.is("23 there is none", x.count(2), 0);
        due.is("23 all fit again", x.cut(0), 3);
        due.is("23 from one again", x.stubble(0, 1), 1);
    }

    private static void promise24() {
        FacingFields x = of("c2 3;c5 7;c2 1;m10 2 20 30 12 9;m4 3 50 25 40 10;m7 1 9 6 2 2;");
        due.is("24 nothing told", x.cut(0), 7);
        x.stubble(0, 10);
        due.is("24 by two crops", x.cut(0), 5);
        due.is("24 nothing told of the other", x.cut(1), 7);
        x.stubble(1, 6);
        due.is("24 of the other", x.cut(1), 5);
        due.is("24 still his", x.cut(0), 5);
        x.ropes(0, 1);
        due.is("24 with a rope: no more than grows", x.cut(0), 4);
        x.stubble(0, 4);
        due.is("24 by none", x.cut(0), 0);
        x.forget();
        x.stubble(0, 4);
        due.is("24 by the heavy", x.cut(0), 2);
        due.is("24 alone", x.cut(2), 0);
        due.is("24 man -1", x.cut(-1), BAD);
        due.is("24 man 3", x.cut(3), BAD);
    }

    private static void fraction(String what, FacingFields x, int[] asked, int upper, int lower) {
        due.is(what + ", upper", x.odds(asked[0], asked[1], asked[2], asked[3], 0), upper);
        due.is(what + ", lower", x.odds(asked[0], asked[1], asked[2], asked[3], 1), lower);
    }

    private static void promise25() {
        // He gains 3 in a dry year and 1 in a wet one.
        FacingFields x = of("c1 1;m2 2 3 2;m1 0 0 40;");
        due.is("25 dry", x.has(0, 2), 2 + 4);
        fraction("25 no years, so much", x, new int[] {3, 0, 0, 0}, 1, 1);
        fraction("25 no years, more", x, new int[] {3, 0, 0, 1}, 0, 1);
        fraction("25 one year", x, new int[] {3, 1, 0, 3}, 7, 10);
        fraction("25 one year, least terms", x, new int[] {4, 1, 0, 3}, 3, 5);
        fraction("25 two dry ones", x, new int[] {3, 2, 0, 6}, 49, 100);
        fraction("25 one dry one at least", x, new int[] {3, 2, 0, 4}, 91, 100);
        fraction("25 whatever comes", x, new int[] {3, 2, 0, 2}, 1, 1);
        fraction("25 six dry ones", x, new int[] {3, 6, 0, 18}, 117649, 1000000);
        fraction("25 it never rains", x, new int[] {0, 6, 0, 18}, 1, 1);
        fraction("25 it always rains", x, new int[] {10, 6, 0, 18}, 0, 1);
        fraction("25 never", x, new int[] {5, 6, 0, 9999}, 0, 1);
        fraction("25 always", x, new int[] {5, 6, 0, -9999}, 1, 1);
        x.rains(1);
        fraction("25 rain now does not matter", x, new int[] {3, 1, 0, 3}, 7, 10);
        x.year();
        fraction("25 what is stored does", x, new int[] {3, 1, 0, 4}, 7, 10);
        due.is("25 nothing changed", x.now(1), 1);
        due.is("25 x -1", x.odds(-1, 0, 0, 0, 0), BAD);
        due.is("25 x 11", x.odds(11, 0, 0, 0, 0), BAD);
        due.is("25 n -1", x.odds(0, -1, 0, 0, 0), BAD);
        due.is("25 n 7", x.odds(0, 7, 0, 0, 0), BAD);
        due.is("25 man -1", x.odds(0, 0, -1, 0, 0), BAD);
        due.is("25 man 2", x.odds(0, 0, 2, 0, 0), BAD);
        due.is("25 v -10000", x.odds(0, 0, 0, -10000, 0), BAD);
        due.is("25 v 10000", x.odds(0, 0, 0, 10000, 0), BAD);
        due.is("25 what -1", x.odds(0, 0, 0, 0, -1), BAD);
        due.is("25 what 2", x.odds(0, 0, 0, 0, 2), BAD);
        oddsAtTheBound();
    }

    private static void oddsAtTheBound() {
        // He gains 81 in a dry year and nothing in a wet one.
        FacingFields x = of("c1 9;m1 9 99 11;m1 0 0 40;");
        due.is("25 dry", x.has(0, 2), 99 + 81);
        for (int i = 0; i < 124; i++) {
            x.year();
        }
        due.is("25 at the bound", x.has(0, 3), 9999);
        fraction("25 at the bound, dry ones add nothing", x, new int[] {5, 2, 0, 9999}, 1, 1);
        FacingFields y = of("c1 9;m1 9 99 0;m1 0 0 40;");
        due.is("25 dry", y.has(0, 2), 81);
        y.ropes(0, 1);
        due.is("25 dry with a rope", y.has(0, 2), 36 * 9);
        for (int i = 0; i < 46; i++) {
            y.year();
        }
        y.rains(1);
        due.is("25 in rain", y.has(0, 2), 18 * 9);
        y.ropes(0, 0);
        due.is("25 in rain without", y.has(0, 2), 0);
        due.is("25 at the bound", y.has(0, 3), 9999);
        // With the mule he gains 63 in a dry year and loses 99 in a wet one.
        y.mules(0, 1);
        fraction("25 both dry, or rain, then dry", y, new int[] {5, 2, 0, 9963}, 1, 2);
        fraction("25 only both dry", y, new int[] {5, 2, 0, 9964}, 1, 4);
        fraction("25 dry, then rain is 9900", y, new int[] {5, 2, 0, 9900}, 3, 4);
    }

    private static void promise26() {
        FacingFields x = of("c1 1;m1 0 10 12;m1 0 5 5;m1 0 9 5;");
        due.is("26 now", x.rich(0, 0), 0);
        due.is("26 in one", x.rich(0, 1), 1);
        due.is("26 in one", x.rich(0, 2), 1);
        due.is("26 in two", x.rich(0, 3), 2);
        due.is("26 in 400", x.rich(0, 800), 400);
        due.is("26 not in 400", x.rich(0, 801), NONE);
        due.is("26 never", x.rich(1, 1), NONE);
        due.is("26 poorer", x.rich(2, 0), 0);
        x.year();
        due.is("26 poorer", x.rich(2, 0), NONE);
        due.is("26 poorer, but so much", x.rich(2, -4), 0);
        due.is("26 richer", x.rich(0, 802), 400);
        due.is("26 nothing changed", x.has(0, 3), 2);
        due.is("26 least", x.rich(2, -9999), 0);
        due.is("26 at the bound", of("c1 9;m1 0 0 40;").rich(0, 9999), 28);
        due.is("26 man -1", x.rich(-1, 0), BAD);
        due.is("26 man 3", x.rich(3, 0), BAD);
        due.is("26 v -10000", x.rich(0, -10000), BAD);
        due.is("26 v 10000", x.rich(0, 10000), BAD);
    }

    private static void promise27() {
        due.is("27 nobody", new FacingFields().poor(), NONE);
        FacingFields x = of("c1 1;c1 2;m1 0 7 5 4;m1 0 0 9 0;m1 0 9 9 9;");
        due.is("27 in one", x.poor(), 1);
        x.year();
        due.is("27 already", x.poor(), 0);
        x.undo();
        x.sows(0, 1);
        due.is("27 none", x.poor(), NONE);
        for (int i = 0; i < 5; i++) {
            x.year();
        }
        due.is("27 just nothing stored is not poor", x.has(2, 3), 0);
        x.sows(0, 0);
        due.is("27 5 by 2 a year", x.poor(), 3);
        FacingFields last = of("c1 1;c1 9;m1 0 0 0 0;m1 0 99 40 11;m1 0 41 40 40;");
        last.sows(1, 1);
        last.sows(2, 1);
        last.year();
        due.is("27 319 stored", last.has(2, 3), 319);
        last.sows(2, 0);
        due.is("27 in 320", last.poor(), 320);
        last.sows(2, 1);
        last.year();
        last.sows(2, 0);
        due.is("27 not in 400", last.poor(), NONE);
        FacingFields most = of("c1 1;c1 4;m1 0 1 0 4;");
        for (int i = 0; i < 27; i++) {
            most.sows(0, 1);
            most.year();
        }
        due.is("27 405 stored", most.has(0, 3), 27 * 15);
        most.sows(0, 0);
        due.is("27 in 406: none", most.poor(), NONE);
        for (int i = 0; i < 6; i++) {
            most.year();
        }
        due.is("27 399 stored: in 400", most.poor(), 400);
    }

    private static void promise28() {
        FacingFields x = of(FOUR);
        due.is("28 upper", x.share(0, 0), 16);
        due.is("28 lower", x.share(0, 1), 31);
        FacingFields nothing = of("c1 1;m1 1 0 0;m1 1 0 0;");
        due.is("28 all have nothing, upper", nothing.share(0, 0), 0);
        due.is("28 all have nothing, lower", nothing.share(1, 1), 1);
        FacingFields one = of("c1 1;m1 1 0 7;m1 1 0 0;m1 1 0 0;");
        due.is("28 took one", one.share(1, 0), 1);
        due.is("28 of seven", one.share(1, 1), 7);
        due.is("28 nothing, upper", one.share(2, 0), 0);
        due.is("28 nothing, lower", one.share(2, 1), 1);
        FacingFields all = of("c1 1;m1 1 0 7;");
        due.is("28 all, upper", all.share(0, 0), 1);
        due.is("28 all, lower", all.share(0, 1), 1);
        due.is("28 man -1", x.share(-1, 0), BAD);
        due.is("28 man 4", x.share(4, 0), BAD);
        due.is("28 what -1", x.share(0, -1), BAD);
        due.is("28 what 2", x.share(0, 2), BAD);
    }

    private static void promise29() {
        FacingFields x = of(THREE);
        x.year();
        x.year();
        int[] has = {102, 63, 18};
        int[] strong = {10, 4, 7};
        int[] needs = {20, 50, 9};
        for (int m = 0; m < 3; m++) {
            due.is("29 man", x.rate(0, m), has[m]);
            due.is("29 giant", x.rate(1, m), has[m] + strong[m]);
            due.is("29 widow", x.rate(2, m), has[m] - needs[m]);
            due.is("29 brother", x.rate(3, m), 2 * (has[m] + strong[m]));
            due.is("29 gleaner", x.rate(4, m), has[m] - needs[m] + m);
            due.is("29 guest", x.rate(5, m), has[m] + 2);
        }
        due.is("29 below nothing", of("c1 1;m1 1 99 1;").rate(2, 0), -98);
        long traced = x.trace();
        due.is("29 kind -1", x.rate(-1, 0), NO);
        due.is("29 kind 6", x.rate(6, 0), NO);
        due.is("29 man -1", x.rate(0, -1), NO);
        due.is("29 man 3", x.rate(0, 3), NO);
        due.is("29 refused leave no trace", x.trace(), traced);
    }

    private static void promise30() {
        FacingFields x = of(THREE);
        due.is("30 years", x.keep(0), 0);
        x.year();
        due.is("30 years", x.keep(1), 1);
        due.is("30 still to be undone", x.now(5), 1);
        x.year();
        due.is("30 kept anew", x.keep(0), 2);
        due.is("30 -1", x.keep(-1), BAD);
        due.is("30 2", x.keep(2), BAD);
        x.undo();
        x.undo();
        due.is("30 the newer one is kept", x.back(0), 2);
        due.is("30 nobody", new FacingFields().keep(0), 0);
    }

    private static void promise31() {
        FacingFields x = of(THREE);
        due.is("31 none was kept", x.back(0), STATE);
        due.is("31 -1", x.back(-1), BAD);
        due.is("31 2", x.back(2), BAD);
        x.sows(0, 1);
        x.rains(1);
        x.ropes(1, 2);
        x.mules(2, 1);
        x.marries(0, 2);
        x.year();
        int stored = x.has(1, 3);
        x.stubble(0, 4);
        x.keep(1);
        x.sows(0, 0);
        x.rains(0);
        x.ropes(1, 1);
        x.mules(2, 0);
        x.marries(0, 2);
        x.year();
        x.stubble(0, 5);
        due.is("31 the other one was not kept", x.back(0), STATE);
        due.is("31 that is no deed", x.now(5), 10);
        due.is("31 years", x.back(1), 1);
        due.is("31 sown", x.man(0, 3), 1);
        due.is("31 rain", x.now(1), 1);
        due.is("31 ropes", x.man(1, 5), 2);
        due.is("31 mule", x.man(2, 6), 1);
        facing("31 facing", x, NONE, 2, 1);
        due.is("31 stored", x.has(1, 3), stored);
        due.is("31 years", x.now(0), 1);
        due.is("31 stubble is not kept", x.count(2), 2);
        due.is("31 nothing can be undone", x.undo(), STATE);
        x.year();
        due.is("31 again", x.back(1), 1);
        due.is("31 again nothing", x.now(5), 0);
    }

    private static void promise32() {
        FacingFields x = of(THREE);
        x.stubble(0, 1);
        x.type(' ');
        x.type(' ');
        x.type(' ');
        x.type(' ');
        due.is("32 crops", x.count(0), 2);
        due.is("32 men", x.count(1), 3);
        due.is("32 stubble", x.count(2), 1);
        due.is("32 letters", x.count(3), 4);
        due.is("32 -1", x.count(-1), BAD);
        due.is("32 4", x.count(4), BAD);
    }

    private static void promise33() {
        FacingFields x = of(THREE);
        due.is("33 at first", x.trace(), 0);
        long[] adds = {1, 11, 101, 1011, 10101, 100001};
        long want = 0;
        for (int round = 0; round < 30; round++) {
            for (int kind = 0; kind < 6; kind++) {
                x.rate(kind, round % 3);
                want += adds[kind];
                due.is("33 behind kind " + kind, x.trace(), want);
            }
        }
        x.year();
        x.undo();
        x.keep(0);
        x.back(0);
        due.is("33 nothing else adds or takes", x.trace(), want);
    }
}
