import java.util.Random;

/** Rows of calls, drawn by fixed seeds, on FacingFields and on NaiveFields: all answers must be alike. */
public final class AgainstNaiveTest {
    private static final Due due = new Due();
    private static final int RUNS = 1200;
    /** One step makes 30 calls at most, or up to 210 where a text is told: none goes beyond 512. */
    private static final int CALLS = 480;
    private static final int CALLS_AHEAD_OF_TEXT = 300;

    private final Random random;
    private final int run;
    private final FacingFields x = new FacingFields();
    private final NaiveFields y = new NaiveFields();
    private int calls;

    private AgainstNaiveTest(int run) {
        this.run = run;
        random = new Random(run);
    }

    public static void main(String[] args) {
        for (int run = 1; run <= RUNS && !due.anyWrong(); run++) {
            new AgainstNaiveTest(run).go();
        }
        due.end();
    }

    private void go() {
        while (calls < CALLS && !due.anyWrong()) {
            if (calls == 0 || calls < CALLS_AHEAD_OF_TEXT && random.nextInt(100) == 0) {
                tell(random.nextInt(6) == 0 ? spoilt(text()) : text());
            } else {
                call();
            }
        }
    }

    private int upTo(int least, int most) {
        return least + random.nextInt(most - least + 1);
    }

    private String blanks(int least) {
        return " ".repeat(random.nextInt(8) == 0 ? least + random.nextInt(2) : least);
    }

    private String text() {
        StringBuilder t = new StringBuilder();
        int crops = random.nextInt(20) == 0 ? upTo(0, 4) : upTo(1, 3);
        for (int c = 0; c < crops; c++) {
            t.append(blanks(0)).append("c").append(blanks(0)).append(upTo(1, 9)).append(blanks(1));
            t.append(upTo(1, 9)).append(blanks(0)).append(";");
        }
        int men = random.nextInt(20) == 0 ? upTo(0, 7) : upTo(1, 6);
        boolean modest = random.nextBoolean();
        for (int m = 0; m < men; m++) {
            t.append("m").append(upTo(1, 20)).append(blanks(1)).append(upTo(0, 9)).append(blanks(1));
            t.append(random.nextInt(4) == 0 ? 0 : upTo(0, modest ? 25 : 99));
            for (int c = 0; c < crops; c++) {
                t.append(blanks(1)).append(random.nextInt(6) == 0 ? 0 : upTo(0, 40));
            }
            t.append(blanks(0)).append(";");
        }
        return t.toString();
    }

    private String spoilt(String text) {
        if (text.isEmpty()) {
            return "c";
        }
        int at = random.nextInt(text.length());
        String signs = "cm;0123456789  x" + (char) 0 + (char) 255;
        char sign = signs.charAt(random.nextInt(signs.length()));
        int way = random.nextInt(4);
        String tail = text.substring(at + 1);
        String head = text.substring(0, at);
        return way == 0 ? head : way == 1 ? head + tail : way == 2 ? head + sign + tail : head + sign + text.charAt(at) + tail;
    }

    private void tell(String text) {
        for (int i = 0; i < text.length(); i++) {
            char c = text.charAt(i);
            same("type " + (int) c, x.type(c), y.type(c));
        }
        int got = x.valley();
        same("valley of '" + text + "'", got, y.valley());
        if (got < 0) {
            same("clear", x.clear(), y.clear());
        }
    }

    private void same(String call, long got, long want) {
        calls++;
        due.holds("run " + run + " stays within 512 calls", calls <= 512);
        due.is("run " + run + ", call " + calls + ": " + call, got, want);
    }

    /** A man who is there, mostly. */
    private int someone() {
        int men = y.count(1);
        return random.nextInt(40) == 0 ? upTo(-2, 7) : men == 0 ? 0 : random.nextInt(men);
    }

    private int someoneOrAll() {
        return random.nextInt(3) == 0 ? -1 : someone();
    }

    private int from(int least, int most) {
        int pick = random.nextInt(60);
        if (pick == 0) {
            return random.nextBoolean() ? least - 1 : most + 1;
        }
        return pick == 1 ? (random.nextBoolean() ? Integer.MIN_VALUE : Integer.MAX_VALUE) : upTo(least, most);
    }

    private int crop() {
        return from(0, Math.max(0, y.count(0) - 1));
    }

    /** What is stored, near to what is or may be, or anything. */
    private int sum(int m) {
        int stored = y.has(m, 3);
        boolean known = stored != FacingFields.NO;
        int way = random.nextInt(4);
        if (known && way < 2) {
            int near = stored + upTo(-700, 700);
            return Math.max(-10000, Math.min(10000, near));
        }
        return way == 2 && known ? stored : from(-9999, 9999);
    }

    private void call() {
        int pick = random.nextInt(66);
        if (pick < 26) {
            deed(pick);
        } else if (pick < 46) {
            question(pick - 26);
        } else {
            look(pick - 46);
        }
    }

    private void deed(int pick) {
        int m = someone();
        int a;
        switch (pick) {
            case 0: case 1: case 2: case 3:
                a = crop();
                same("sows " + m + " " + a, x.sows(m, a), y.sows(m, a));
                break;
            case 4: case 5:
                a = from(0, 1);
                same("rains " + a, x.rains(a), y.rains(a));
                break;
            case 6: case 7: case 8: case 9:
                a = from(0, 3);
                same("ropes " + m + " " + a, x.ropes(m, a), y.ropes(m, a));
                break;
            case 10: case 11: case 12:
                a = from(0, 1);
                same("mules " + m + " " + a, x.mules(m, a), y.mules(m, a));
                break;
            case 13: case 14: case 15: case 16:
                a = someone();
                same("marries " + m + " " + a, x.marries(m, a), y.marries(m, a));
                break;
            case 17: case 18:
                same("year", x.year(), y.year());
                break;
            case 19:
                for (int i = upTo(1, 30); i > 0; i--) {
                    same("year", x.year(), y.year());
                }
                break;
            case 20: case 21: case 22:
                for (int i = upTo(1, 4); i > 0; i--) {
                    same("undo", x.undo(), y.undo());
                }
                break;
            case 23:
                a = from(0, 1);
                same("keep " + a, x.keep(a), y.keep(a));
                break;
            case 24:
                a = from(0, 1);
                same("back " + a, x.back(a), y.back(a));
                break;
            default:
                tellStubble(m);
        }
    }

    private void tellStubble(int m) {
        int taken = y.has(m, 0);
        int n = taken >= 0 && random.nextInt(3) > 0 ? taken : from(0, 180);
        same("stubble " + m + " " + n, x.stubble(m, n), y.stubble(m, n));
        same("cut " + m, x.cut(m), y.cut(m));
        if (random.nextInt(3) == 0) {
            same("forget", x.forget(), y.forget());
        }
    }

    private void question(int pick) {
        int m = someone();
        int what = from(0, 1);
        switch (pick) {
            case 0: case 1: case 2: {
                int c = random.nextBoolean() ? upTo(0, 60) : from(0, 999);
                same("best " + m + " " + c + " " + what, x.best(m, c, what), y.best(m, c, what));
                break;
            }
            case 3: case 4:
                same("rest " + m + " " + what, x.rest(m, what), y.rest(m, what));
                break;
            case 5:
                same("hungry " + m, x.hungry(m), y.hungry(m));
                break;
            case 6: case 7: case 8: {
                int all = someoneOrAll();
                same("faces " + all, x.faces(all), y.faces(all));
                break;
            }
            case 9: {
                int all = someoneOrAll();
                same("needed " + all, x.needed(all), y.needed(all));
                break;
            }
            case 10:
                same("cut " + m, x.cut(m), y.cut(m));
                break;
            case 11: case 12: {
                int rain = from(0, 10);
                int n = from(0, 6);
                int v = sum(m);
                same("odds " + rain + " " + n + " " + m + " " + v + " " + what,
                        x.odds(rain, n, m, v, what), y.odds(rain, n, m, v, what));
                break;
            }
            case 13: case 14: {
                int v = sum(m);
                same("rich " + m + " " + v, x.rich(m, v), y.rich(m, v));
                break;
            }
            case 15:
                same("poor", x.poor(), y.poor());
                break;
            case 16: case 17:
                same("share " + m + " " + what, x.share(m, what), y.share(m, what));
                break;
            default: {
                int kind = from(0, 5);
                same("rate " + kind + " " + m, x.rate(kind, m), y.rate(kind, m));
            }
        }
    }

    private void look(int pick) {
        int m = someone();
        int what;
        switch (pick) {
            case 0: case 1: case 2: case 3: case 4:
                what = from(0, 6);
                same("man " + m + " " + what, x.man(m, what), y.man(m, what));
                break;
            case 5:
                what = crop();
                same("yieldOf " + m + " " + what, x.yieldOf(m, what), y.yieldOf(m, what));
                break;
            case 6: case 7:
                what = crop();
                same("carries " + m + " " + what, x.carries(m, what), y.carries(m, what));
                break;
            case 8: case 9: case 10: case 11: case 12:
                what = from(0, 3);
                same("has " + m + " " + what, x.has(m, what), y.has(m, what));
                break;
            case 13: case 14: case 15: case 16:
                what = from(0, 5);
                same("now " + what, x.now(what), y.now(what));
                break;
            case 17: case 18:
                what = from(0, 3);
                same("count " + what, x.count(what), y.count(what));
                break;
            default:
                same("trace", x.trace(), y.trace());
        }
    }
}
