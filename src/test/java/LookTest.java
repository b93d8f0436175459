/** Looks at pins, tunes, teeth, notes and numbers: promises 19 to 24. */
public final class LookTest {
    private LookTest() {
    }

    public static void main(String[] args) {
        next();
        tune();
        chord();
        toothGaps();
        toothNumbers();
        note();
        count();
        Check.end();
    }

    private static void next() {
        PinCylinder x = new PinCylinder();
        Check.due("next without pins", PinCylinder.NONE, x.next(0, 0, 0));
        Check.set(x, "1/6:4,20");
        Check.due("next from 0", 4, x.next(1, 6, 0));
        Check.due("next from a pin", 4, x.next(1, 6, 4));
        Check.due("next behind it", 20, x.next(1, 6, 5));
        Check.due("next around", 4, x.next(1, 6, 21));
        Check.due("next from 31", 4, x.next(1, 6, 31));
        Check.due("next of another tooth", PinCylinder.NONE, x.next(1, 5, 4));
        Check.due("next of another tune", PinCylinder.NONE, x.next(0, 6, 4));
        Check.noIndex("next(3, 0, 0)", x, () -> x.next(3, 0, 0));
        Check.noIndex("next(0, 12, 0)", x, () -> x.next(0, 12, 0));
        Check.noIndex("next(0, 0, -1)", x, () -> x.next(0, 0, -1));
        Check.noIndex("next(0, 0, 32)", x, () -> x.next(0, 0, 32));
    }

    private static void tune() {
        PinCylinder x = new PinCylinder();
        for (int what = 0; what < 5; what++) {
            Check.due("an empty tune, " + what, 0, x.tune(2, what));
        }
        Check.set(x, "1/0:31,5;1/4:9,8;1/11:8,9,31;0/2:0-31");
        int[] numbers = {7, 7, 2, 8, 1 | 1 << 4 | 1 << 11};
        for (int what = 0; what < 5; what++) {
            Check.due("tune 1, " + what, numbers[what], x.tune(1, what));
        }
        x.pin(1, 7, 31);
        Check.due("the most in a step", 3, x.tune(1, 2));
        Check.due("the first step with so many", 31, x.tune(1, 3));
        Check.set(x, "2/8:0;2/9:1;2/10:1");
        int[] atTheStart = {3, 3, 2, 1, 1 << 8 | 1 << 9 | 1 << 10};
        for (int what = 0; what < 5; what++) {
            Check.due("tune 2, " + what, atTheStart[what], x.tune(2, what));
        }
        Check.noIndex("tune(3, 0)", x, () -> x.tune(3, 0));
        Check.noIndex("tune(-1, 9)", x, () -> x.tune(-1, 9));
        Check.noArgument("tune(0, 5)", x, () -> x.tune(0, 5));
        Check.noArgument("tune(0, -1)", x, () -> x.tune(0, -1));
    }

    private static void chord() {
        PinCylinder x = new PinCylinder();
        Check.set(x, "2/0:31;2/11:31;2/6:31,30");
        Check.due("chord(2, 31)", 1 | 1 << 11 | 1 << 6, x.chord(2, 31));
        Check.due("chord(2, 30)", 1 << 6, x.chord(2, 30));
        Check.due("chord(2, 0)", 0, x.chord(2, 0));
        Check.due("chord(1, 31)", 0, x.chord(1, 31));
        Check.noIndex("chord(3, 0)", x, () -> x.chord(3, 0));
        Check.noIndex("chord(-1, 0)", x, () -> x.chord(-1, 0));
        Check.noIndex("chord(0, 32)", x, () -> x.chord(0, 32));
        Check.noIndex("chord(0, -1)", x, () -> x.chord(0, -1));
    }

    private static void toothGaps() {
        PinCylinder x = new PinCylinder();
        Check.set(x, "0/0:5;0/1:5,6;0/2:0,10,31;0/3:0-31;0/4:0,16;1/5:3");
        int[] gaps = {32, 31, 21, 1, 16, 0};
        for (int tooth = 0; tooth < gaps.length; tooth++) {
            Check.due("gap of tooth " + tooth, gaps[tooth], x.tooth(tooth, 4));
        }
        x.shift(1);
        Check.due("gap in the tune that is played", 32, x.tooth(5, 4));
        Check.due("gap of a tooth without pins there", 0, x.tooth(0, 4));
    }

    private static void toothNumbers() {
        PinCylinder x = new PinCylinder();
        Check.set(x, "0/2:0-1;0/3:0");
        x.set(1, 20);
        x.wind(400);
        x.play(2);
        int[] two = {36, 1, 0, 2, 31};
        int[] three = {24, 0, 0, 1, 32};
        for (int what = 0; what < 5; what++) {
            Check.due("tooth 2, " + what, two[what], x.tooth(2, what));
            Check.due("tooth 3, " + what, three[what], x.tooth(3, what));
        }
        Check.noIndex("tooth(12, 0)", x, () -> x.tooth(12, 0));
        Check.noIndex("tooth(-1, 9)", x, () -> x.tooth(-1, 9));
        Check.noArgument("tooth(0, 5)", x, () -> x.tooth(0, 5));
        Check.noArgument("tooth(11, -1)", x, () -> x.tooth(11, -1));
    }

    private static void note() {
        PinCylinder x = new PinCylinder();
        x.set(4, 12);
        for (int tooth = 0; tooth < 12; tooth++) {
            Check.set(x, "0/" + tooth + ":0-2");
        }
        x.wind(400);
        x.play(1);
        Check.due("tooth of the 12th note back", 0, x.note(11, 0));
        Check.due("its time", 10, x.note(11, 1));
        Check.due("no 13th one", PinCylinder.NONE, x.note(12, 0));
        Check.due("no time of it", PinCylinder.NONE, x.note(12, 1));
        x.play(2);
        Check.due("notes so far", 36, x.count(6));
        for (int back = 0; back < 24; back++) {
            Check.due("tooth of note " + back, 11 - back % 12, x.note(back, 0));
            Check.due("time of note " + back, back < 12 ? 30 : 20, x.note(back, 1));
        }
        Check.noArgument("note(24, 0)", x, () -> x.note(24, 0));
        Check.noArgument("note(-1, 0)", x, () -> x.note(-1, 0));
        Check.noArgument("note(0, 2)", x, () -> x.note(0, 2));
        Check.noArgument("note(0, -1)", x, () -> x.note(0, -1));
    }

    private static void count() {
        PinCylinder x = new PinCylinder();
        Check.set(x, "1/0:0-31;2/5:4");
        x.set(0, 90);
        x.set(1, 20);
        x.set(2, 1);
        x.set(3, 7);
        x.set(4, 11);
        x.vanes(4);
        x.wind(300);
        x.play(12);
        int ticks = 12 - 5 + 4;
        int[] numbers = {11, 1, 277, 4, 12 * ticks, 12, 10, 10, 0, 1, 33, 23, 90, 20, 1, 7, 11, 6};
        for (int what = 0; what < numbers.length; what++) {
            Check.due("count " + what, numbers[what], x.count(what));
        }
        PinCylinder y = new PinCylinder();
        Check.set(y, "0/0:0;0/1:0");
        y.set(0, 11);
        y.wind(400);
        y.play(2);
        Check.due("a tick to ring", 1, y.tooth(0, 0));
        Check.due("the tooth that rings", 1, y.count(8));
        Check.noArgument("count(18)", x, () -> x.count(18));
        Check.noArgument("count(-1)", x, () -> x.count(-1));
    }
}
