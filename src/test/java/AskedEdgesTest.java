/** Promises 17 to 28: what is asked, at the bounds that the document names. */
public final class AskedEdgesTest {
    private static final int BAD = Run.BAD, STATE = Run.STATE, FULL = Run.FULL, NONE = Run.NONE, NO = Run.NO;
    private static final Due due = new Due();

    public static void main(String[] args) {
        bestByC();
        bestOfSeveral();
        bestAlone();
        bestAsThingsAre();
        restOfOneCrop();
        restOfThreeCrops();
        restOfOneAlone();
        hungryAtTheBound();
        facesOfOneAndTwo();
        facesOfAnOddNumber();
        facesTheFirstOfSeveral();
        facesNobodyThere();
        neededAtTheBound();
        neededOfAll();
        neededOfOneAlone();
        stubbleIsFull();
        stubbleOfSheaves();
        cutByStubble();
        cutOfOneAlone();
        oddsOfRain();
        oddsOfNoYears();
        oddsInLeastTerms();
        oddsAtTheBounds();
        richIn400();
        richByV();
        poorIn400();
        poorOfSeveral();
        shares();
        due.end();
    }

    private static void bestByC() {
        // 40 sheaves worth 9 each, and one over there who carries them all home.
        Run run = Run.of(due, "17 HAS c by what he TAKES alone at least", "c1 9;m1 0 0 40;m20 9 0 0;");
        run.is("best 0 0 0", 0).is("best 0 360 0", 0).is("best 0 360 1", 0).is("best 0 361 0", NONE).is("best 0 361 1", NONE);
        run.is("best 0 999 0", NONE).is("best 0 999 1", NONE).is("best 0 1000 0", BAD).is("best 0 -1 0", BAD);
        run.is("best 1 0 0", 0).is("best 1 0 1", 360).is("best 1 1 0", NONE).is("best 1 1 1", NONE);
        // He has 63 by what he takes; that he keeps 9 more of his own does not count.
        Run alone = Run.of(due, "17 by what he TAKES alone", "c1 9;m1 0 0 40;m1 7 0 1;");
        alone.is("has 1 2", 72).is("best 0 63 0", 0).is("best 0 64 0", NONE);
    }

    private static void bestOfSeveral() {
        String text = "c1 1;c1 2;c1 3;m1 0 0 6 3 2;m1 1 0 0 0 0;";
        Run run = Run.of(due, "17 of several the lowest", text);
        // He keeps 5, 4 or 3, and the other one takes what is worth 1, 2 or 3.
        run.is("best 0 0 0", 0).is("best 0 0 1", 5).is("best 0 1 0", 0).is("best 0 2 0", 1).is("best 0 2 1", 4);
        run.is("best 0 3 0", 2).is("best 0 3 1", 3).is("best 0 4 0", NONE).is("best 0 4 1", NONE);
        run.is("sows 0 2", 0).is("best 0 0 0", 0).is("man 0 3", 2);
        Run tie = Run.of(due, "17 of several the lowest", "c1 1;c1 2;c1 1;m1 0 0 3 3 7;m1 1 0 0 0 0;");
        tie.is("best 0 0 0", 2).is("best 0 0 1", 6).is("best 0 2 0", 1).is("best 0 2 1", 4);
        Run alike = Run.of(due, "17 of several the lowest", "c1 3;c1 2;c1 1;m1 0 0 1 3 5;m1 1 0 0 0 0;");
        alike.is("best 0 0 0", 1).is("best 0 0 1", 4).is("best 0 1 0", 1).is("best 0 3 0", 0).is("best 0 3 1", 0);
    }

    private static void bestAlone() {
        Run run = Run.of(due, "17 c does not matter to one who OPPOSES nobody", "c1 1;c1 2;c2 1;m1 1 0 2 1 2;");
        run.is("best 0 0 0", 0).is("best 0 999 0", 0).is("best 0 999 1", 2).is("best 0 1000 0", BAD).is("best 0 -1 1", BAD);
        Run none = Run.of(due, "17 where nothing grows", "c1 1;m1 1 0 0;");
        none.is("best 0 999 0", 0).is("best 0 999 1", 0);
        Run odd = Run.of(due, "17 one alone by marriage", "c1 1;m1 1 0 5;m1 1 0 0;m1 1 0 0;");
        odd.is("best 0 2 0", NONE).is("marries 2 0", 1).is("best 0 2 0", 0).is("best 0 2 1", 5);
    }

    private static void bestAsThingsAre() {
        Run run = Run.of(due, "17 as things are NOW", "c1 1;m1 0 0 9;m1 4 0 0;");
        run.is("best 0 4 0", 0).is("best 0 4 1", 5).is("best 0 5 0", NONE).is("rains 1", 0).is("best 0 1 0", NONE);
        run.is("best 0 0 1", 9).is("ropes 1 1", 0).is("best 0 8 0", 0).is("best 0 9 0", NONE).is("mules 1 1", 0);
        run.is("best 0 9 0", 0).is("best 0 9 1", 0).is("best 0 10 0", NONE);
        // The other one comes for the light crop alone, whichever is sown now.
        Run light = Run.of(due, "17 by the CROP that he would sow", "c1 1;c5 1;m1 0 0 9 9;m4 2 0 0 0;");
        light.is("best 0 1 0", 0).is("best 0 1 1", 1).is("best 0 0 0", 1).is("best 0 0 1", 9).is("sows 0 1", 0);
        light.is("best 0 8 0", 0).is("best 0 9 0", NONE).is("best 0 0 0", 1);
    }

    private static void restOfOneCrop() {
        Run run = Run.of(due, "18 one CROP", "c1 1;m1 1 0 5;m1 1 0 0;");
        run.each("rest # 0", 1, 1, BAD).each("rest # 1", 0, 0, BAD).is("rest 0 2", BAD).is("rest 0 -1", BAD);
    }

    private static void restOfThreeCrops() {
        Run last = Run.of(due, "18 twos of CROPS (his, the other one's)", "c1 1;c1 1;c1 1;m1 0 0 1 2 3;m1 0 0 1 2 3;");
        last.is("rest 0 0", 1).is("rest 0 1", 22).is("rest 1 1", 22);
        Run order = Run.of(due, "18 10 times his and the other one's", "c1 1;c1 1;c1 1;m1 0 0 1 2 3;m1 0 0 5 2 5;");
        order.is("rest 0 0", 2).is("rest 0 1", 20).is("rest 1 0", 2).is("rest 1 1", 2);
        Run all = Run.of(due, "18 nine at most", "c1 1;c1 1;c1 1;m1 0 0 0 0 0;m1 0 0 0 0 0;");
        all.is("rest 0 0", 9).is("rest 0 1", 0);
        Run first = Run.of(due, "18 neither HAS more by sowing otherwise alone", "c1 1;c1 1;m1 0 0 2 1;m1 0 0 2 1;");
        first.is("rest 0 0", 1).is("rest 0 1", 0);
        // Of the light crop he keeps 1 in a dry year and 5 in rain, of the heavy one 3.
        Run now = Run.of(due, "18 as things are NOW", "c1 1;c5 1;m1 0 0 9 3;m4 2 0 0 0;");
        now.is("rest 0 0", 2).is("rest 0 1", 10).is("rest 1 1", 1).is("rains 1", 0).is("rest 0 1", 0).is("rest 0 0", 2);
    }

    private static void restOfOneAlone() {
        Run run = Run.of(due, "18 STATE: he OPPOSES nobody", "c1 1;m1 1 0 5;m1 1 0 0;m1 1 0 0;");
        run.is("rest 2 0", STATE).is("rest 2 1", STATE).is("rest 2 2", BAD).is("rest 2 -1", BAD).is("rest 3 0", BAD);
        run.is("marries 0 2", NONE).is("rest 0 0", STATE).is("rest 2 0", 1).is("rest 0 2", BAD);
    }

    private static void hungryAtTheBound() {
        Run run = Run.of(due, "19 who do not HAVE what they NEED", "c1 1;c1 2;m1 0 20 9 10;m1 0 21 9 10;m1 0 20 9 10;");
        run.each("hungry #", 0, 1, 0, BAD).is("now 3", 2).is("hungry -1", BAD);
        Run alone = Run.of(due, "19 one alone", "c1 1;c1 2;m1 0 21 9 10;");
        alone.is("hungry 0", 1).is("now 3", 1);
        Run more = Run.of(due, "19 who HAS more than he NEEDS", "c1 9;c1 1;m1 0 45 5 40;m1 0 44 5 40;m1 0 44 5 40;");
        more.each("hungry #", 0, 0, 0, BAD).is("now 3", 0);
        Run fed = Run.of(due, "19 fed by what MAN 0 may sow", "c1 1;c1 9;m1 0 0 5 5;m1 5 45 0 0;");
        fed.is("has 1 2", 5).is("hungry 1", 0).is("now 3", 0);
        Run all = Run.of(due, "19 MEN (bits)", "c1 1;" + "m1 0 1 0;".repeat(6));
        all.is("now 3", 63).each("hungry #", 1, 1, 1, 1, 1, 1, BAD);
        Run none = Run.of(due, "19 who NEEDS nothing", "c1 1;" + "m1 0 0 0;".repeat(6));
        none.is("now 3", 0).each("hungry #", 0, 0, 0, 0, 0, 0, BAD);
        // Sowing otherwise alone feeds neither man 0 by the other's sowing, nor the other way round.
        Run both = Run.of(due, "19 whichever CROPS they and whom they OPPOSE sow", "c1 1;c1 9;m1 3 31 1 1;m1 0 0 40 40;");
        both.is("has 0 2", 4).is("hungry 0", 0).is("sows 1 1", 0).is("has 0 2", 28).is("sows 0 1", 0).is("has 0 2", 36);
        both.is("now 3", 0).is("rains 1", 0).is("now 3", 1).is("ropes 0 1", 0).is("now 3", 0);
    }

    private static void facesOfOneAndTwo() {
        Run one = Run.of(due, "20 one alone at most, if they are an odd number", "c1 1;m1 1 99 0;");
        one.is("faces -1", -99).is("faces 0", NONE).is("faces 1", NO).is("faces -2", NO);
        Run two = Run.of(due, "20 two and two", "c1 1;m1 1 1 9;m1 1 9 3;");
        two.is("faces -1", -6).each("faces #", 1, 0, NO);
        // What grows at man 3 would feed men 0 and 1, but only one of them can face him.
        Run torn = Run.of(due, "20 two and two", "c1 1;m9 9 5 0;m9 9 5 0;m1 0 0 0;m1 0 0 20;");
        torn.is("faces -1", -5).each("faces #", 1, 0, 3, 2, NO);
    }

    private static void facesOfAnOddNumber() {
        // Man 0 is fed by what grows over at man 1 alone.
        Run run = Run.of(due, "20 the least is greatest", "c1 1;m9 9 9 0;m1 0 0 20;m1 0 0 0;");
        run.is("faces -1", 0).each("faces #", 1, 0, NONE, NO).is("marries 0 2", NONE).is("faces -1", 0).each("faces #", 1, 0, NONE);
        Run last = Run.of(due, "20 the least is greatest", "c1 1;m9 9 9 0;m1 0 0 0;m1 0 0 20;");
        last.is("faces -1", 0).each("faces #", 2, NONE, 0, NO).each("man # 4", 1, 0, NONE);
        Run far = Run.of(due, "20 of five, the last one", "c1 1;m1 0 0 0;m9 9 9 0;m1 0 0 0;m1 0 0 0;m1 0 0 20;");
        far.is("faces -1", 0).each("faces #", NONE, 4, 3, 2, 1, NO);
    }

    private static void facesTheFirstOfSeveral() {
        int[][] first = {{NONE}, {1, 0}, {NONE, 2, 1}, {1, 0, 3, 2}, {NONE, 2, 1, 4, 3}, {1, 0, 3, 2, 5, 4}};
        for (int men = 1; men <= 6; men++) {
            Run run = Run.of(due, "20 of several the first, nobody is ahead of all", "c1 1;" + "m1 1 2 1;".repeat(men));
            run.is("faces -1", -1);
            for (int m = 0; m < men; m++) {
                run.is("faces " + m, first[men - 1][m]);
            }
            run.is("faces " + men, NO);
        }
        Run six = Run.of(due, "20 of fifteen ways the last", "c1 1;m9 9 9 0;m1 0 0 0;m1 0 0 0;m1 0 0 0;m1 0 0 0;m1 0 0 20;");
        six.is("faces -1", 0).each("faces #", 5, 2, 1, 4, 3, 0, NO);
    }

    private static void facesNobodyThere() {
        Run run = Run.of(due, "20 NO: nobody is there", "c1 1;c1 1;");
        run.is("faces -1", NO).is("faces 0", NO).is("faces -2", NO);
        Run ropes = Run.of(due, "20 by the ROPES there are", "c4 1;m1 1 1 0;m1 0 0 40;");
        ropes.is("faces -1", -1).is("ropes 0 1", 0).is("faces -1", 0).is("rains 1", 0).is("faces -1", -1);
    }

    private static void neededAtTheBound() {
        // No rope lifts nothing, one or two lift one sheaf, three lift two.
        int[][] due21 = {{0, 0}, {1, 1}, {2, 3}, {3, NONE}};
        for (int[] row : due21) {
            Run run = Run.of(due, "21 fewest ROPES for " + row[0], "c4 1;m1 1 " + row[0] + " 0;m1 0 0 40;");
            int none = row[1] == NONE ? NONE : 0;
            run.is("needed -1", row[1]).is("needed 0", row[1]).is("needed 1", none).is("needed 2", BAD).is("needed -2", BAD);
            run.is("ropes 0 3", 0).is("ropes 1 3", 0).is("needed -1", row[1]).is("needed 0", row[1]).is("needed 1", none);
            run.is("man 0 5", 3).is("man 1 5", 3);
        }
        Run second = Run.of(due, "21 the second of two", "c4 1;m1 0 0 40;m1 1 2 0;");
        second.is("needed -1", 3).each("needed #", 0, 3, BAD);
        // What the other one brings home by ropes of his own is what he keeps less.
        Run lost = Run.of(due, "21 by which all HAVE what they NEED", "c4 1;m1 1 1 0;m1 0 39 40;");
        lost.is("needed -1", 1).is("needed 0", 1).is("needed 1", 0);
        Run torn = Run.of(due, "21 NONE: what feeds one starves the other", "c4 1;m1 1 1 0;m1 0 40 40;");
        torn.is("needed -1", NONE).each("needed #", NONE, NONE, BAD);
    }

    private static void neededOfAll() {
        Run six = Run.of(due, "21 how many, of all", "c4 1;m1 1 2 0;m1 0 0 40;m1 0 0 40;m1 1 1 0;m1 1 0 0;m1 0 0 40;");
        six.is("needed -1", 4).each("needed #", 3, 0, 0, 1, 0, 0, BAD).is("mules 0 1", 0).is("needed -1", 2);
        six.is("rains 1", 0).is("needed -1", 4).each("needed #", 2, 0, 0, 2, 0, 0, BAD);
        Run last = Run.of(due, "21 NONE, if one alone of all can't be fed", "c4 1;m1 1 2 0;m1 0 0 40;m1 0 0 0;m1 1 1 0;");
        last.is("needed -1", NONE).each("needed #", NONE, NONE, NONE, NONE, BAD);
    }

    private static void neededOfOneAlone() {
        Run fed = Run.of(due, "21 one alone", "c4 1;m1 1 7 7;");
        fed.is("needed -1", 0).is("needed 0", 0).is("ropes 0 3", 0).is("needed -1", 0).is("needed 0", 0);
        Run more = Run.of(due, "21 one alone who HAS more", "c4 1;m1 1 6 7;");
        more.is("needed -1", 0).is("needed 0", 0);
        Run unfed = Run.of(due, "21 one alone, whom nobody can feed", "c4 1;m1 1 8 7;");
        unfed.is("needed -1", NONE).is("needed 0", NONE).is("needed 1", BAD);
        Run nobody = Run.of(due, "21 nobody there", "c4 1;");
        nobody.is("needed -1", 0).is("needed 0", BAD);
    }

    private static void stubbleIsFull() {
        Run run = Run.of(due, "22 STUBBLE (5 at most)", "c1 1;m3 1 0 5;m2 1 0 5;");
        run.is("stubble 0 3", 1).is("stubble 0 3", 2).is("stubble 1 2", 3).is("stubble 0 3", 4).is("stubble 1 2", 5);
        run.is("stubble 1 4", FULL).is("stubble 0 0", FULL).is("count 2", 5).each("cut #", 1, 1, BAD);
        run.is("stubble 2 0", BAD).is("stubble -1 0", BAD).is("stubble 0 -1", BAD).is("stubble 0 181", BAD);
        run.is("forget", 5).is("forget", 0).is("count 2", 0).is("stubble 1 180", 1).each("cut #", 1, 0, BAD);
        run.times(3, "stubble 0 3").is("count 2", 4).is("stubble 0 3", 5).is("stubble 0 3", FULL).is("forget", 5);
    }

    private static void stubbleOfSheaves() {
        Run run = Run.of(due, "22 n (0 .. 180) sheaves", "c9 1;c1 1;m3 9 0 0 0;m1 0 0 40 40;");
        run.is("stubble 0 0", 1).is("cut 0", 1).is("forget", 1).is("stubble 0 27", 1).is("cut 0", 2).is("forget", 1);
        run.is("stubble 0 180", 1).is("cut 0", 0).is("stubble 0 181", BAD).is("stubble 0 -1", BAD).is("count 2", 1);
        Run most = Run.of(due, "22 as many as may grow", "c1 1;m20 9 0 0;m1 0 0 40;");
        most.is("carries 0 0", 180).is("stubble 0 40", 1).is("cut 0", 1).is("stubble 0 180", 2).is("cut 0", 0);
    }

    private static void cutByStubble() {
        Run run = Run.of(due, "24 CROPS (bits)", "c1 1;c1 1;c2 1;m4 1 0 9 9 9;m2 1 0 3 4 2;");
        run.each("cut #", 7, 7, BAD).is("stubble 0 4", 1).is("cut 0", 2).is("cut 1", 7).is("forget", 1);
        run.is("stubble 0 3", 1).is("cut 0", 1).is("forget", 1).is("stubble 0 2", 1).is("cut 0", 4);
        run.is("stubble 0 2", 2).is("cut 0", 4).is("stubble 0 3", 3).is("cut 0", 0).is("cut 1", 7);
        run.is("stubble 1 2", 4).is("cut 1", 3).is("rains 1", 0).is("cut 1", 0).is("rains 0", 1).is("cut 1", 3);
        run.is("stubble 1 1", 5).is("cut 1", 0).is("cut 0", 0).is("forget", 5).each("cut #", 7, 7, BAD);
    }

    private static void cutOfOneAlone() {
        Run run = Run.of(due, "24 0, if he OPPOSES nobody", "c1 1;m1 1 0 1;m1 1 0 1;m1 1 0 1;");
        run.each("cut #", 1, 1, 0, BAD).is("stubble 2 0", 1).is("cut 2", 0).is("stubble 2 1", 2).is("cut 2", 0);
        run.is("forget", 2).is("stubble 2 1", 1).is("marries 2 0", 1).each("cut #", 0, 1, 1, BAD);
    }

    private static void odds(Run run, String asked, int upper, int lower) {
        run.is("odds " + asked + " 0", upper).is("odds " + asked + " 1", lower);
    }

    /** Man 0 gains 3 in a dry year and 1 in a wet one. */
    private static Run dryOrWet(String sentence) {
        return Run.of(due, sentence, "c1 1;m2 2 3 2;m1 0 0 40;");
    }

    private static void oddsOfRain() {
        Run run = dryOrWet("25 it RAINS by x (0 .. 10) of 10");
        for (int x = 1; x <= 9; x++) {
            boolean even = x % 2 == 0;
            int upper = x == 5 ? 1 : even ? (10 - x) / 2 : 10 - x;
            odds(run, x + " 1 0 3", upper, x == 5 ? 2 : even ? 5 : 10);
        }
        odds(run, "0 1 0 3", 1, 1);
        odds(run, "0 6 0 18", 1, 1);
        odds(run, "0 6 0 19", 0, 1);
        odds(run, "10 1 0 3", 0, 1);
        odds(run, "10 6 0 6", 1, 1);
        odds(run, "10 6 0 7", 0, 1);
        run.is("odds 11 1 0 3 0", BAD).is("odds -1 1 0 3 0", BAD);
    }

    private static void oddsOfNoYears() {
        Run run = dryOrWet("25 n (0 .. 6) YEARS");
        odds(run, "5 0 0 0", 1, 1);
        odds(run, "5 0 0 1", 0, 1);
        odds(run, "5 0 0 -1", 1, 1);
        run.is("rains 1", 0).is("year", 2).is("has 0 3", 1);
        odds(run, "5 0 0 1", 1, 1);
        odds(run, "5 0 0 2", 0, 1);
        odds(run, "5 6 0 19", 1, 64);
        odds(run, "5 6 0 20", 0, 1);
        odds(run, "5 6 0 7", 1, 1);
        odds(run, "5 6 0 8", 63, 64);
        run.is("odds 5 7 0 0 0", BAD).is("odds 5 -1 0 0 0", BAD).is("now 0", 1).is("has 0 3", 1).is("now 1", 1);
    }

    private static void oddsInLeastTerms() {
        Run run = dryOrWet("25 in least terms");
        odds(run, "9 6 0 18", 1, 1000000);
        odds(run, "1 6 0 18", 531441, 1000000);
        odds(run, "9 6 0 7", 468559, 1000000);
        odds(run, "2 6 0 18", 4096, 15625);
        odds(run, "5 2 0 4", 3, 4);
        odds(run, "5 3 0 7", 1, 2);
        // The other one has his 40 less what is taken, 4 or 2.
        odds(run, "3 2 1 72", 1, 1);
        odds(run, "3 2 1 74", 51, 100);
        odds(run, "3 2 1 76", 9, 100);
        odds(run, "3 2 1 77", 0, 1);
        run.is("odds 3 2 2 0 0", BAD).is("odds 3 2 -1 0 0", BAD).is("odds 3 2 0 0 2", BAD).is("odds 3 2 0 0 -1", BAD);
    }

    private static void oddsAtTheBounds() {
        Run run = dryOrWet("25 v (-9999 .. 9999)");
        odds(run, "5 6 0 9999", 0, 1);
        odds(run, "5 6 0 -9999", 1, 1);
        run.is("odds 5 6 0 10000 0", BAD).is("odds 5 6 0 -10000 0", BAD);
        Run rich = Run.of(due, "25 STORED is 9999 at most", "c1 9;m1 0 0 40;");
        rich.times(28, "year").is("has 0 3", 9999);
        odds(rich, "5 6 0 9999", 1, 1);
        Run poor = Run.of(due, "25 STORED is -9999 at least", "c1 9;c1 1;m1 0 99 0 0;m1 0 0 0 0;");
        poor.times(101, "year").is("has 0 3", -9999);
        odds(poor, "5 6 0 -9999", 1, 1);
        odds(poor, "5 6 0 -9998", 0, 1);
    }

    private static void richIn400() {
        Run run = Run.of(due, "26 in how many YEARS (0 .. 400)", "c1 1;c1 5;m1 0 0 1 5;m1 0 1 1 1;m1 0 1 0 0;");
        run.is("rich 0 0", 0).is("rich 0 1", 1).is("rich 0 399", 399).is("rich 0 400", 400).is("rich 0 401", NONE);
        run.is("rich 1 0", 0).is("rich 1 1", NONE).is("rich 2 0", 0).is("rich 2 1", NONE).is("rich 0 -1", 0);
        run.is("sows 0 1", 0).is("rich 0 9975", 399).is("rich 0 9976", 400).is("rich 0 9999", 400);
        run.is("year", 2).is("rich 2 0", NONE).is("rich 2 -1", 0).is("rich 0 9999", 399).is("now 0", 1).is("has 0 3", 25);
        run.is("sows 0 0", 1).is("rich 0 425", 400).is("rich 0 426", NONE);
    }

    private static void richByV() {
        Run run = Run.of(due, "26 v (-9999 .. 9999)", "c1 9;m1 0 0 40;m1 0 99 0;");
        run.is("rich 0 9999", 28).is("rich 0 9720", 27).is("rich 0 9721", 28).is("rich 0 -9999", 0).is("rich 1 -9999", 0);
        run.is("rich 0 10000", BAD).is("rich 0 -10000", BAD).is("rich 2 0", BAD).is("rich -1 0", BAD);
    }

    private static void poorIn400() {
        // 1 less, 39 more or 1 more in a year.
        Run run = Run.of(due, "27 in how many (0 .. 400)", "c1 1;c1 1;c1 1;m1 0 1 0 40 2;");
        run.is("poor", 1).is("sows 0 1", 0).is("poor", NONE).times(10, "year").is("sows 0 2", 1).times(9, "year");
        run.is("has 0 3", 399).is("poor", NONE).is("sows 0 0", 2).is("poor", 400).is("sows 0 2", 0).is("year", 1);
        run.is("has 0 3", 400).is("sows 0 0", 2).is("poor", NONE).is("year", 0).is("has 0 3", 399).is("poor", 400);
        run.is("year", 0).is("poor", 399).times(398, "year").is("has 0 3", 0).is("poor", 1).is("year", 0).is("poor", 0);
    }

    private static void poorOfSeveral() {
        Run run = Run.of(due, "27 somebody has less than nothing", "c1 1;c1 9;m1 0 5 5 5;m1 0 6 0 2;m1 0 10 3 5;m1 0 0 0 0;");
        run.is("sows 1 1", 0).is("sows 2 1", 0).is("poor", NONE).is("year", 4).each("has # 3", 0, 12, 35, 0);
        run.is("sows 2 0", 1).is("poor", 6).is("sows 1 0", 1).is("poor", 3).is("sows 2 1", 0).is("poor", 3);
        run.is("year", 3).is("year", 3).is("has 1 3", 0).is("poor", 1).is("year", 3).is("has 1 3", -6).is("poor", 0);
        // 44 stored, and 1 less in a year; 43 stored, and 2 less.
        Run later = Run.of(due, "27 the later one is the sooner", "c1 1;c1 9;m1 0 1 0 5;m1 0 2 0 5;");
        later.is("sows 0 1", 0).is("sows 1 1", 0).is("year", 2).is("sows 0 0", 1).is("poor", 45).is("sows 1 0", 1).is("poor", 22);
        Run all = Run.of(due, "27 of six the last", "c1 1;" + "m1 0 0 0;".repeat(5) + "m1 0 1 0;");
        all.is("poor", 1).is("year", 5).is("poor", 0);
    }

    private static void shares() {
        Run nothing = Run.of(due, "28 0 by 1, if all have nothing", "c1 9;m20 9 0 0;m20 9 0 0;m20 9 0 0;");
        nothing.each("share # 0", 0, 0, 0, BAD).each("share # 1", 1, 1, 1, BAD).is("now 4", 0);
        Run run = Run.of(due, "28 in least terms", "c1 1;m1 0 0 6;m1 0 0 4;m1 0 0 0;m1 0 0 2;m1 0 0 5;m1 0 0 7;");
        run.is("now 4", 24).each("share # 0", 1, 1, 0, 1, 5, 7, BAD).each("share # 1", 4, 6, 1, 12, 24, 24, BAD);
        run.is("share 0 2", BAD).is("share 0 -1", BAD).is("share -1 0", BAD);
        Run taken = Run.of(due, "28 what he HAS by that of all together", "c1 1;m3 2 0 1;m1 1 0 9;");
        taken.each("share # 0", 3, 2, BAD).each("share # 1", 5, 5, BAD).is("mules 0 1", 0);
        taken.each("share # 0", 9, 1, BAD).each("share # 1", 10, 10, BAD);
        Run one = Run.of(due, "28 who has all", "c1 9;m1 0 0 40;m1 0 0 0;");
        one.each("share # 0", 1, 0, BAD).each("share # 1", 1, 1, BAD);
    }
}
