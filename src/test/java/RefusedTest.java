import java.util.ArrayList;
import java.util.List;

/**
 * "Refused, and nothing changes, the first of these: BAD, STATE, FULL." For each number of each
 * call: one below and one above what is told, the least and the greatest int. Whether anything has
 * changed is seen by a second object that was not asked: both must answer alike to all that is
 * asked of them from then on.
 */
public final class RefusedTest {
    private static final int BAD = Run.BAD, STATE = Run.STATE, FULL = Run.FULL, NO = Run.NO;
    private static final Due due = new Due();

    /** A call, the bounds of its numbers, and what it answers if one of them is not as told. */
    private record Call(String name, long refusal, int[] least, int[] most) { }

    /** A text and what is done behind it, by which an object comes to what it is. */
    private record Life(String text, String pending, String... calls) {
        Run lived(String sentence) {
            Run run = text.isEmpty() ? new Run(due, sentence) : Run.of(due, sentence, text);
            for (String call : calls) {
                run.ask(call);
            }
            return run.typed(pending);
        }
    }

    private static final String THREE = "c2 3;c5 7;m10 2 20 30 12;m4 3 50 25 40;m7 1 9 6 2;";
    private static final String SIX = "c2 1;c5 3;c3 2;m12 3 30 20 10 12;m4 2 25 16 9 14;m7 4 40 18 6 10;m20 1 10 8 12 9;"
            + "m9 9 9 9 9 9;m5 5 5 5 5 5;";
    private static final String[] DEEDS = {
        "sows 0 1", "keep 0", "rains 1", "ropes 0 1", "ropes 1 2", "mules 1 1", "marries 0 2", "stubble 2 7",
        "year", "year", "sows 1 1", "rate 3 1", "rains 0", "stubble 1 1", "ropes 2 3", "mules 1 0", "marries 2 1",
    };
    private static final Life NEW = new Life("", "");
    private static final Life CROPS_ALONE = new Life("c1 2;c3 4;", "c1 1;", "rains 1", "year", "keep 1", "year");
    private static final Life ONE_MAN = new Life("c4 5;m6 7 8 9;", "c1", "year", "ropes 0 2", "keep 0", "mules 0 1", "stubble 0 0");
    private static final Life LIVED = new Life(THREE, "c7 8;m9 9 9 9;", DEEDS);
    private static final Life SIX_LIVED = new Life(SIX, "c7 8;m9 9 9 9;m", DEEDS);
    /** All that can be full is full: the text, the stubble, what may be undone; both images are kept. */
    private static final Life FILLED = new Life(THREE, "c7 8;m9 9 9 9;" + " ".repeat(186),
            "keep 1", "stubble 0 6", "stubble 0 6", "stubble 1 0", "stubble 2 3", "stubble 1 0", "sows 0 1", "rains 1",
            "ropes 0 1", "ropes 1 2", "mules 1 1", "marries 0 2", "year", "year", "sows 1 1", "keep 0", "rains 0", "year");
    /** Nothing can be undone, and image 1 was not kept. */
    private static final Life BACK = new Life(THREE, "x", "sows 0 1", "year", "keep 0", "stubble 0 4", "ropes 1 3", "back 0");

    public static void main(String[] args) {
        numbersOf(NEW, 0, 0);
        numbersOf(CROPS_ALONE, 0, 2);
        numbersOf(ONE_MAN, 1, 1);
        numbersOf(LIVED, 3, 2);
        numbersOf(SIX_LIVED, 6, 3);
        numbersOf(FILLED, 3, 2);
        numbersOf(BACK, 3, 2);
        insideAreNotRefused(LIVED, 3, 2);
        insideAreNotRefused(SIX_LIVED, 6, 3);
        alike();
        states();
        full();
        faults();
        questionsChangeNothing();
        due.end();
    }

    private static int[] row(int... numbers) {
        return numbers;
    }

    private static List<Call> callsOf(int men, int crops) {
        int m = men - 1;
        int c = crops - 1;
        List<Call> all = new ArrayList<>();
        all.add(new Call("type", BAD, row(0), row(255)));
        all.add(new Call("man", BAD, row(0, 0), row(m, 6)));
        all.add(new Call("yieldOf", BAD, row(0, 0), row(m, c)));
        all.add(new Call("carries", BAD, row(0, 0), row(m, c)));
        all.add(new Call("has", NO, row(0, 0), row(m, 3)));
        all.add(new Call("now", BAD, row(0), row(5)));
        all.add(new Call("sows", BAD, row(0, 0), row(m, c)));
        all.add(new Call("rains", BAD, row(0), row(1)));
        all.add(new Call("ropes", BAD, row(0, 0), row(m, 3)));
        all.add(new Call("mules", BAD, row(0, 0), row(m, 1)));
        all.add(new Call("marries", BAD, row(0, 0), row(m, m)));
        all.add(new Call("best", BAD, row(0, 0, 0), row(m, 999, 1)));
        all.add(new Call("rest", BAD, row(0, 0), row(m, 1)));
        all.add(new Call("hungry", BAD, row(0), row(m)));
        all.add(new Call("faces", NO, row(-1), row(m)));
        all.add(new Call("needed", BAD, row(-1), row(m)));
        all.add(new Call("stubble", BAD, row(0, 0), row(m, 180)));
        all.add(new Call("cut", BAD, row(0), row(m)));
        all.add(new Call("odds", BAD, row(0, 0, 0, -9999, 0), row(10, 6, m, 9999, 1)));
        all.add(new Call("rich", BAD, row(0, -9999), row(m, 9999)));
        all.add(new Call("share", BAD, row(0, 0), row(m, 1)));
        all.add(new Call("rate", NO, row(0, 0), row(5, m)));
        all.add(new Call("keep", BAD, row(0), row(1)));
        all.add(new Call("back", BAD, row(0), row(1)));
        all.add(new Call("count", BAD, row(0), row(3)));
        return all;
    }

    private static String told(String name, int[] numbers) {
        StringBuilder call = new StringBuilder(name);
        for (int number : numbers) {
            call.append(' ').append(number);
        }
        return call.toString();
    }

    private static void numbersOf(Life life, int men, int crops) {
        List<List<Long>> untouched = seen(life, "");
        for (Call call : callsOf(men, crops)) {
            int count = call.least().length;
            int[] allBelow = new int[count];
            int[] allAbove = new int[count];
            for (int i = 0; i < count; i++) {
                int below = call.least()[i] - 1;
                int above = call.most()[i] + 1;
                allBelow[i] = below;
                allAbove[i] = above;
                for (int wrong : row(below, above, Run.LOW, Run.HIGH)) {
                    refused(life, with(call.least(), i, wrong), call, untouched);
                    refused(life, with(call.most(), i, wrong), call, untouched);
                }
            }
            refused(life, allBelow, call, untouched);
            refused(life, allAbove, call, untouched);
        }
    }

    private static int[] with(int[] numbers, int at, int number) {
        int[] other = numbers.clone();
        other[at] = number;
        return other;
    }

    private static void refused(Life life, int[] numbers, Call call, List<List<Long>> untouched) {
        refused(life, told(call.name(), numbers), call.refusal(), untouched);
    }

    private static void refused(Life life, String call, long answer, List<List<Long>> untouched) {
        life.lived("refused").is(call, answer);
        due.holds("behind " + call + ", which is refused, nothing has changed", seen(life, call).equals(untouched));
    }

    private static void insideAreNotRefused(Life life, int men, int crops) {
        for (Call call : callsOf(men, crops)) {
            if (call.name().equals("marries")) {
                continue;
            }
            int count = call.least().length;
            for (int edges = 0; edges < 1 << count; edges++) {
                int[] numbers = call.least().clone();
                for (int i = 0; i < count; i++) {
                    numbers[i] = (edges >> i & 1) == 1 ? call.most()[i] : numbers[i];
                }
                String asked = told(call.name(), numbers);
                due.holds(asked + " is as told", life.lived(asked).ask(asked) != call.refusal());
            }
        }
    }

    private static void alike() {
        for (Life life : List.of(LIVED, FILLED, BACK)) {
            List<List<Long>> untouched = seen(life, "");
            for (int m = 0; m < 3; m++) {
                refused(life, "marries " + m + " " + m, BAD, untouched);
            }
        }
        refused(ONE_MAN, "marries 0 0", BAD, seen(ONE_MAN, ""));
        refused(ONE_MAN, "marries 0 1", BAD, seen(ONE_MAN, ""));
    }

    private static void states() {
        for (Life life : List.of(NEW, BACK)) {
            refused(life, "undo", STATE, seen(life, ""));
        }
        refused(NEW, "back 0", STATE, seen(NEW, ""));
        refused(NEW, "back 1", STATE, seen(NEW, ""));
        refused(BACK, "back 1", STATE, seen(BACK, ""));
        refused(LIVED, "back 1", STATE, seen(LIVED, ""));
        refused(ONE_MAN, "rest 0 0", STATE, seen(ONE_MAN, ""));
        refused(ONE_MAN, "rest 0 1", STATE, seen(ONE_MAN, ""));
        refused(BACK, "rest 2 1", STATE, seen(BACK, ""));
        // BAD is ahead of STATE.
        refused(ONE_MAN, "rest 0 2", BAD, seen(ONE_MAN, ""));
        refused(BACK, "rest 2 -1", BAD, seen(BACK, ""));
        refused(NEW, "back 2", BAD, seen(NEW, ""));
        refused(NEW, "back -1", BAD, seen(NEW, ""));
    }

    private static void full() {
        List<List<Long>> untouched = seen(FILLED, "");
        for (int letter : row(0, 32, ';', 255)) {
            refused(FILLED, "type " + letter, FULL, untouched);
        }
        for (int m = 0; m < 3; m++) {
            refused(FILLED, "stubble " + m + " 0", FULL, untouched);
            refused(FILLED, "stubble " + m + " 180", FULL, untouched);
        }
        // BAD is ahead of FULL; each wrong number has been asked of the filled one already.
        refused(FILLED, "type 256", BAD, untouched);
        refused(FILLED, "stubble 3 0", BAD, untouched);
        refused(FILLED, "stubble 0 181", BAD, untouched);
    }

    /** Each way to a FAULT that the document names, told to one who has lived. */
    private static void faults() {
        String[][] texts = {
            {"c1 1;c1 1;c1 1;c1 1;", "15"}, {"c1 1;m1 1 1 1;c1 1;", "14"}, {"m1 1 1;", "0"},
            {"c1 1;" + "m1 1 1 1;".repeat(7), "59"}, {"c0 1;", "1"}, {"c1 10;", "3"}, {"c1 1;m21 1 1 1;", "6"},
            {"c1 1;m1 10 1 1;", "8"}, {"c1 1;m1 1 1 41;", "12"}, {"c1 1;m1 1 100 1;", "10"}, {"c1 1;m1 1 01 1;", "10"},
            {"c1 1;x", "5"}, {"c1 1;;", "5"}, {"c1 1;m1 1 1 1", "13"}, {"c1 1;m", "6"}, {"c1 1;m1 1 1 1;m1", "16"},
        };
        for (String[] text : texts) {
            Life life = new Life(THREE, text[0], DEEDS);
            refused(life, "valley", -10 - Integer.parseInt(text[1]), seen(life, ""));
        }
    }

    private static void questionsChangeNothing() {
        String[] questions = {
            "man 0 3", "yieldOf 0 1", "carries 1 0", "has 1 2", "now 3", "now 4", "best 0 0 0", "best 1 999 1", "rest 1 0",
            "rest 1 1", "hungry 0", "hungry 2", "faces -1", "faces 1", "needed -1", "needed 2", "cut 0", "cut 1",
            "odds 5 6 0 10 0", "odds 3 1 1 -9999 1", "rich 0 9999", "rich 2 -9999", "poor", "share 0 0", "share 2 1",
            "count 2", "trace",
        };
        for (Life life : List.of(LIVED, FILLED, BACK)) {
            List<List<Long>> untouched = seen(life, "");
            for (String question : questions) {
                due.holds(question + " changes nothing", seen(life, question).equals(untouched));
            }
        }
        // Were a change not seen, all of the above would hold for nothing.
        String[] changes = {
            "type 99", "clear", "valley", "sows 2 1", "rains 1", "ropes 0 0", "mules 0 1", "marries 0 1", "year", "undo",
            "stubble 0 180", "forget", "rate 0 0", "keep 0", "keep 1", "back 0",
        };
        for (String change : changes) {
            due.holds(change + " is seen", !seen(LIVED, change).equals(seen(LIVED, "")));
        }
    }

    /** All that can be seen of an object behind a call ("" is none), each row by an object of its own. */
    private static List<List<Long>> seen(Life life, String call) {
        List<List<Long>> all = new ArrayList<>();
        for (int way = 0; way < 5; way++) {
            Run run = life.lived("looking behind '" + call + "'");
            if (!call.isEmpty()) {
                run.ask(call);
            }
            List<Long> row = new ArrayList<>();
            switch (way) {
                case 0: seeNow(run, row); break;
                case 1: seeUndone(run, row); break;
                case 2: seeImages(run, row); break;
                case 3: seeStubble(run, row); break;
                default: seeText(run, row);
            }
            all.add(row);
        }
        return all;
    }

    private static void see(Run run, List<Long> row, String... calls) {
        for (String call : calls) {
            row.add(run.ask(call));
        }
    }

    private static void seeNow(Run run, List<Long> row) {
        see(run, row, "count 0", "count 1", "count 2", "count 3", "trace", "faces -1", "needed -1", "poor");
        long men = row.get(1);
        long crops = row.get(0);
        for (int what = 0; what <= 5; what++) {
            see(run, row, "now " + what);
        }
        for (int m = 0; m < men; m++) {
            for (int what = 0; what <= 6; what++) {
                see(run, row, "man " + m + " " + what);
            }
            for (int crop = 0; crop < crops; crop++) {
                see(run, row, "yieldOf " + m + " " + crop, "carries " + m + " " + crop);
            }
            see(run, row, "has " + m + " 0", "has " + m + " 1", "has " + m + " 2", "has " + m + " 3");
            see(run, row, "best " + m + " 9 0", "best " + m + " 0 1", "rest " + m + " 0", "rest " + m + " 1", "hungry " + m);
            see(run, row, "faces " + m, "needed " + m, "cut " + m, "odds 3 3 " + m + " 50 0", "odds 3 3 " + m + " 50 1");
            see(run, row, "rich " + m + " 500", "share " + m + " 0", "share " + m + " 1");
        }
    }

    /** What is kept by an image. */
    private static void seeMoment(Run run, List<Long> row) {
        long men = run.ask("count 1");
        see(run, row, "now 0", "now 1");
        for (int m = 0; m < men; m++) {
            see(run, row, "man " + m + " 3", "man " + m + " 4", "man " + m + " 5", "man " + m + " 6", "has " + m + " 3");
        }
    }

    private static void seeUndone(Run run, List<Long> row) {
        for (int i = 0; i < 10; i++) {
            see(run, row, "undo");
            seeMoment(run, row);
        }
        see(run, row, "undo");
    }

    private static void seeImages(Run run, List<Long> row) {
        see(run, row, "back 0");
        seeMoment(run, row);
        see(run, row, "back 1");
        seeMoment(run, row);
        see(run, row, "undo");
    }

    private static void seeStubble(Run run, List<Long> row) {
        long men = run.ask("count 1");
        for (int m = 0; m < men; m++) {
            for (int n = 0; n <= 3; n++) {
                see(run, row, "ropes " + m + " " + n, "cut " + m);
            }
        }
        see(run, row, "stubble 0 0", "forget");
    }

    private static void seeText(Run run, List<Long> row) {
        see(run, row, "valley");
        see(run, row, "count 0", "count 1", "count 2", "count 3", "man 0 0", "man 0 1", "man 0 2", "yieldOf 0 0", "has 0 2");
        see(run, row, "man 1 0", "now 0", "now 1", "now 5", "back 0", "trace", "clear");
    }
}
