/** Random runs, of which each answer is compared with the model's. */
public final class ModelTest {
    private static final int RUNS = 700;
    /** An object is used for at most 512 calls, and a step of a run makes at most some 75 of them. */
    private static final int CALLS = 512 - 75;
    private static final String SIGNS = "0123456789/:,;-3210a ~!";

    private long seed;
    private int asked = 0;
    private PinCylinder x;
    private Model m;

    private interface Answer {
        double get();
    }

    private ModelTest(long seed) {
        this.seed = seed;
    }

    public static void main(String[] args) {
        for (int run = 0; run < RUNS; run++) {
            new ModelTest(7919L * run + 1).run(run);
        }
        Check.end();
    }

    private int below(int n) {
        seed = seed * 6364136223846793005L + 1442695040888963407L;
        return (int) ((seed >>> 33) % n);
    }

    /** Mostly a to b, now and then beside them or far from them. */
    private int about(int a, int b) {
        switch (below(40)) {
            case 0:
                return a - 1;
            case 1:
                return b + 1;
            case 2:
                return below(2) == 0 ? Integer.MIN_VALUE : Integer.MAX_VALUE;
            default:
                return a + below(b - a + 1);
        }
    }

    private void run(int run) {
        x = new PinCylinder();
        m = new Model();
        while (asked < CALLS) {
            String call = call();
            if (call != null) {
                Check.fail("run " + run + ", call " + asked + ": " + call);
                return;
            }
            asked++;
            if (x.digest() != m.digest()) {
                Check.fail("run " + run + ", call " + asked + ": the digest differs");
                return;
            }
        }
    }

    private static String answered(Answer answer) {
        try {
            return String.valueOf(answer.get());
        } catch (RuntimeException e) {
            return e.getClass().getSimpleName();
        }
    }

    private String same(String call, Answer got, Answer want) {
        asked++;
        String is = answered(got);
        String due = answered(want);
        return is.equals(due) ? null : call + " answered " + is + ", due is " + due;
    }

    private String call() {
        int kind = below(30);
        if (kind < 6) {
            return text();
        }
        if (kind < 20) {
            return change();
        }
        return look();
    }

    private String number(int most) {
        return "" + below(most);
    }

    private String someText() {
        StringBuilder text = new StringBuilder();
        for (int parts = 1 + below(3); parts > 0; parts--) {
            text.append(number(3)).append('/').append(number(12)).append(':');
            for (int items = 1 + below(3); items > 0; items--) {
                text.append(number(32));
                if (below(2) == 0) {
                    text.append('-').append(number(33));
                }
                text.append(items > 1 ? "," : "");
            }
            text.append(parts > 1 ? ";" : "");
        }
        if (below(4) == 0) {
            text.insert(below(text.length() + 1), SIGNS.charAt(below(SIGNS.length())));
        }
        if (below(6) == 0) {
            text.setLength(below(text.length() + 1));
        }
        return text.toString();
    }

    private String text() {
        if (below(4) > 0) {
            asked++;
            x.clearBuffer();
            m.clearBuffer();
        }
        String text = below(3) == 0 ? number(3) + "/" + number(12) + ":0-31" : someText();
        for (char c : text.toCharArray()) {
            String wrong = same("append " + c, () -> x.append(c), () -> m.append(c));
            if (wrong != null) {
                return wrong;
            }
        }
        String wrong = same("firstError of " + text, () -> x.firstError(), () -> m.firstError());
        if (wrong != null || below(5) == 0) {
            return wrong;
        }
        return same("pins of " + text, () -> x.pins(), () -> m.pins());
    }

    private String change() {
        int t = about(0, 2);
        int k = about(0, 11);
        int s = about(0, 31);
        switch (below(16)) {
            case 0:
                return same("pin", () -> x.pin(t, k, s), () -> m.pin(t, k, s));
            case 1: {
                int to = about(0, 31);
                return same("pull", () -> x.pull(t, k, s, to), () -> m.pull(t, k, s, to));
            }
            case 2: {
                int to = about(0, 2);
                int steps = about(-31, 31);
                int teeth = about(-11, 11) / (1 + below(4));
                return same("copy", () -> x.copy(t, to, steps, teeth), () -> m.copy(t, to, steps, teeth));
            }
            case 3:
            case 4: {
                int n = below(2) == 0 ? about(1, 400) : about(1, 30);
                return same("wind", () -> x.wind(n), () -> m.wind(n));
            }
            case 5: {
                int n = about(1, 9);
                return same("vanes", () -> x.vanes(n), () -> m.vanes(n));
            }
            case 6:
                return same("shift", () -> x.shift(t), () -> m.shift(t));
            case 7:
                return same("mend", () -> x.mend(k), () -> m.mend(k));
            case 8:
            case 9: {
                int which = about(0, 4);
                int[][] limits = {{4, 90}, {0, 20}, {0, 1}, {1, 8}, {1, 12}};
                int[] limit = limits[which >= 0 && which < 5 ? which : 0];
                int value = about(limit[0], limit[1]);
                return same("set " + which + " " + value, () -> x.set(which, value), () -> m.set(which, value));
            }
            case 10:
                return same("undo", () -> x.undo(), () -> m.undo());
            case 11:
                return below(3) > 0 ? null : same("keep", () -> x.keep(), () -> m.keep());
            case 12:
                return below(3) > 0 ? null : same("restore", () -> x.restore(), () -> m.restore());
            default: {
                int n = below(2) == 0 ? about(1, 128) : about(1, 9);
                return same("play " + n, () -> x.play(n), () -> m.play(n));
            }
        }
    }

    private String look() {
        int t = about(0, 2);
        int k = about(0, 11);
        int s = about(0, 31);
        int five = about(0, 4);
        switch (below(12)) {
            case 0:
            case 1:
                return same("whyNot", () -> x.whyNot(t, k, s), () -> m.whyNot(t, k, s));
            case 2:
                return same("next", () -> x.next(t, k, s), () -> m.next(t, k, s));
            case 3:
                return same("tune", () -> x.tune(t, five), () -> m.tune(t, five));
            case 4:
                return same("chord", () -> x.chord(t, s), () -> m.chord(t, s));
            case 5:
                return same("tooth", () -> x.tooth(k, five), () -> m.tooth(k, five));
            case 6: {
                int back = about(0, 23);
                int what = about(0, 1);
                return same("note", () -> x.note(back, what), () -> m.note(back, what));
            }
            case 7: {
                int what = about(0, 17);
                return same("count " + what, () -> x.count(what), () -> m.count(what));
            }
            case 8: {
                int n = about(1, 128);
                return same("ifPlayed", () -> x.ifPlayed(n, five), () -> m.ifPlayed(n, five));
            }
            case 9:
                return same("fewestVanes", () -> x.fewestVanes(), () -> m.fewestVanes());
            case 10: {
                int n = about(1, 9);
                return same("windFor", () -> x.windFor(n), () -> m.windFor(n));
            }
            default:
                return same("clean", () -> x.clean(), () -> m.clean());
        }
    }
}
