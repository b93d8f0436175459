/** Winding, vanes, shifting, playing, mending and settings: promises 5 to 10. */
public final class PlayTest {
    private PlayTest() {
    }

    public static void main(String[] args) {
        wind();
        vanes();
        shift();
        playTakesWindAndTime();
        playRunsDown();
        playShifts();
        playNeedsTheWindOfTheComingTune();
        ringing();
        dampingInTime();
        restingToothIsNotDamped();
        wearAndBreaking();
        notesComeFromToothZeroOn();
        playRefuses();
        mend();
        set();
        setRefuses();
        Check.end();
    }

    private static void wind() {
        PinCylinder x = new PinCylinder();
        Check.due("wind(1)", 1, x.wind(1));
        Check.due("wind(398)", 399, x.wind(398));
        Check.due("wind beyond the most", 400, x.wind(400));
        Check.due("wind of a full spring", 400, x.wind(1));
        Check.due("saved states", 4, x.count(17));
        Check.noArgument("wind(0)", x, () -> x.wind(0));
        Check.noArgument("wind(401)", x, () -> x.wind(401));
        Check.noArgument("wind(-1)", x, () -> x.wind(-1));
        Check.noArgument("wind of the greatest", x, () -> x.wind(Integer.MAX_VALUE));
        x.undo();
        x.undo();
        Check.due("wind behind undo", 399, x.count(2));
    }

    private static void vanes() {
        PinCylinder x = new PinCylinder();
        Check.due("vanes(1)", 5, x.vanes(1));
        Check.due("vanes(9)", 1, x.vanes(9));
        Check.due("the same vanes", 9, x.vanes(9));
        Check.due("count(3)", 9, x.count(3));
        Check.due("saved states", 3, x.count(17));
        Check.noArgument("vanes(0)", x, () -> x.vanes(0));
        Check.noArgument("vanes(10)", x, () -> x.vanes(10));
        x.undo();
        x.undo();
        Check.due("vanes behind undo", 1, x.count(3));
    }

    private static void shift() {
        PinCylinder x = new PinCylinder();
        Check.due("shift(2)", 0, x.shift(2));
        Check.due("shift(1)", 2, x.shift(1));
        Check.due("shift(1) again", 1, x.shift(1));
        Check.due("saved states", 3, x.count(17));
        Check.due("the step stays", 31, x.count(0));
        Check.noIndex("shift(3)", x, () -> x.shift(3));
        Check.noIndex("shift(-1)", x, () -> x.shift(-1));
        x.undo();
        x.undo();
        Check.due("tune behind undo", 2, x.count(1));
    }

    private static void playTakesWindAndTime() {
        PinCylinder x = new PinCylinder();
        x.pin(0, 0, 0);
        x.pin(0, 7, 0);
        x.wind(400);
        Check.due("play(1)", 1, x.play(1));
        Check.due("the step", 0, x.count(0));
        Check.due("the wind", 397, x.count(2));
        Check.due("time by the wind then", 10, x.count(4));
        Check.due("steps", 1, x.count(5));
        Check.due("notes", 2, x.count(6));
        Check.due("wind needed", 3, x.count(11));
        x.undo();
        x.play(1);
        x.vanes(9);
        Check.due("play(31)", 31, x.play(31));
        Check.due("the wind later", 366, x.count(2));
        Check.due("time later", 10 + 31 * 14, x.count(4));
        PinCylinder y = new PinCylinder();
        y.wind(351);
        y.play(1);
        Check.due("time at wind 350", 10, y.count(4));
        y.play(1);
        Check.due("time at wind 349", 10 + 11, y.count(4));
        PinCylinder z = new PinCylinder();
        z.wind(400);
        z.play(1);
        Check.due("time at wind 399", 10, z.count(4));
    }

    private static void playRunsDown() {
        PinCylinder x = new PinCylinder();
        x.pin(0, 0, 0);
        x.pin(0, 1, 0);
        x.pin(0, 0, 1);
        x.wind(2);
        Check.due("too little wind", 0, x.play(128));
        Check.due("the step stays", 31, x.count(0));
        Check.due("the wind stays", 2, x.count(2));
        Check.due("no time", 0, x.count(4));
        Check.due("a state is saved all the same", 5, x.count(17));
        x.wind(1);
        Check.due("just enough wind", 1, x.play(128));
        Check.due("no wind left", 0, x.count(2));
        Check.due("time without wind", 17, x.count(4));
        x.wind(3);
        Check.due("wind for two steps", 2, x.play(128));
        x.wind(400);
        Check.due("the most steps", 128, x.play(128));
        Check.due("the step behind 131", 2, x.count(0));
        Check.due("steps in all", 131, x.count(5));
    }

    private static void playShifts() {
        PinCylinder x = new PinCylinder();
        x.wind(400);
        x.play(1);
        Check.due("no shift without setting 2", 0, x.count(1));
        x.set(2, 1);
        x.play(31);
        Check.due("before the end of the turn", 0, x.count(1));
        int[] tunes = {1, 2, 0};
        for (int tune : tunes) {
            x.play(1);
            Check.due("at the end of a turn", tune, x.count(1));
            x.play(31);
            Check.due("within the turn", tune, x.count(1));
        }
    }

    private static void playNeedsTheWindOfTheComingTune() {
        PinCylinder x = new PinCylinder();
        x.pin(1, 3, 0);
        x.set(2, 1);
        x.wind(1);
        Check.due("the coming tune needs 2", 0, x.play(1));
        Check.due("the tune stays", 0, x.count(1));
        Check.due("the step stays", 31, x.count(0));
        x.wind(1);
        Check.due("now it goes on", 1, x.play(1));
        Check.due("a note of the coming tune", 3, x.note(0, 0));
        PinCylinder y = new PinCylinder();
        y.pin(0, 0, 0);
        y.set(2, 1);
        y.wind(1);
        Check.due("the tune that is left needs nothing", 1, y.play(1));
        Check.due("and is not heard", 0, y.count(6));
    }

    private static void ringing() {
        PinCylinder x = new PinCylinder();
        Check.set(x, "0/0:0;0/1:0;0/10:0;0/11:0");
        x.set(0, 25);
        x.wind(400);
        x.play(1);
        Check.due("ringing of tooth 0", 25, x.tooth(0, 0));
        Check.due("ringing of tooth 1", 23, x.tooth(1, 0));
        Check.due("ringing of tooth 10", 5, x.tooth(10, 0));
        Check.due("ringing of tooth 11", 4, x.tooth(11, 0));
        Check.due("teeth that ring", 4, x.count(8));
        x.set(0, 90);
        x.play(1);
        Check.due("later", 15, x.tooth(0, 0));
        Check.due("rests", 0, x.tooth(10, 0));
        Check.due("teeth that ring later", 2, x.count(8));
        x.play(2);
        Check.due("rests at last", 0, x.tooth(0, 0));
        Check.due("none rings", 0, x.count(8));
    }

    /** A tooth with pins in the steps 0 and 1, played at 10 ticks a step. */
    private static PinCylinder twice(int ringing, int damping) {
        PinCylinder x = new PinCylinder();
        Check.set(x, "0/0:0-1");
        x.set(0, ringing);
        x.set(1, damping);
        x.wind(400);
        x.play(2);
        return x;
    }

    private static void dampingInTime() {
        PinCylinder inTime = twice(40, 9);
        Check.due("10 ticks are more than 9", 0, inTime.count(7));
        Check.due("no wear", 0, inTime.tooth(0, 1));
        PinCylinder squeaks = twice(40, 10);
        Check.due("10 ticks are not more than 10", 1, squeaks.count(7));
        Check.due("wear", 1, squeaks.tooth(0, 1));
        Check.due("it is plucked all the same", 2, squeaks.count(6));
        Check.due("and rings anew", 40, squeaks.tooth(0, 0));
        squeaks.set(1, 9);
        squeaks.pin(0, 0, 2);
        squeaks.play(1);
        Check.due("wear delays the damper", 2, squeaks.count(7));
        squeaks.set(1, 7);
        squeaks.pin(0, 0, 3);
        squeaks.play(1);
        Check.due("10 ticks are more than 7 and 2", 2, squeaks.count(7));
    }

    private static void restingToothIsNotDamped() {
        Check.due("a tooth that came to rest", 0, twice(10, 20).count(7));
        Check.due("a tooth with a tick to ring", 1, twice(11, 20).count(7));
    }

    private static void wearAndBreaking() {
        PinCylinder x = new PinCylinder();
        Check.set(x, "0/0:0-31");
        x.set(0, 90);
        x.set(1, 20);
        x.wind(400);
        x.play(10);
        Check.due("wear before", 9, x.tooth(0, 1));
        Check.due("not broken before", 0, x.tooth(0, 2));
        Check.due("squeaks before", 9, x.count(7));
        Check.due("the step that breaks it", 1, x.play(1));
        Check.due("wear", 9, x.tooth(0, 1));
        Check.due("broken", 1, x.tooth(0, 2));
        Check.due("it rests", 0, x.tooth(0, 0));
        Check.due("squeaks", 10, x.count(7));
        Check.due("notes", 10, x.count(6));
        Check.due("notes of it", 10, x.tooth(0, 3));
        Check.due("teeth broken", 1, x.count(9));
        Check.due("wind needed", 22, x.count(11));
        x.play(5);
        Check.due("a broken tooth needs no wind", 27, x.count(11));
        Check.due("a broken tooth makes no note", 10, x.count(6));
        Check.due("nor a squeak", 10, x.count(7));
        Check.due("mend", 9, x.mend(0));
        x.play(1);
        Check.due("it is heard again", 11, x.count(6));
        Check.due("without a squeak", 10, x.count(7));
    }

    private static void notesComeFromToothZeroOn() {
        PinCylinder x = new PinCylinder();
        Check.set(x, "0/9:0;0/2:0;0/5:0");
        x.wind(400);
        x.play(1);
        int[] teeth = {9, 5, 2};
        for (int back = 0; back < 3; back++) {
            Check.due("tooth of note " + back, teeth[back], x.note(back, 0));
            Check.due("time of note " + back, 10, x.note(back, 1));
        }
    }

    private static void playRefuses() {
        PinCylinder x = new PinCylinder();
        x.wind(400);
        Check.noArgument("play(0)", x, () -> x.play(0));
        Check.noArgument("play(129)", x, () -> x.play(129));
        Check.noArgument("play(-1)", x, () -> x.play(-1));
    }

    private static void mend() {
        PinCylinder x = twice(40, 10);
        Check.due("it rings", 40, x.tooth(0, 0));
        int saved = x.count(17);
        Check.due("mend", 1, x.mend(0));
        Check.due("it rests", 0, x.tooth(0, 0));
        Check.due("no wear", 0, x.tooth(0, 1));
        Check.due("its notes stay", 2, x.tooth(0, 3));
        Check.due("mend of a whole tooth", 0, x.mend(11));
        Check.due("saved states", Math.min(6, saved + 2), x.count(17));
        Check.noIndex("mend(12)", x, () -> x.mend(12));
        Check.noIndex("mend(-1)", x, () -> x.mend(-1));
        x.undo();
        x.undo();
        Check.due("wear behind undo", 1, x.tooth(0, 1));
        Check.due("ringing behind undo", 40, x.tooth(0, 0));
    }

    private static void set() {
        PinCylinder x = new PinCylinder();
        Check.set(x, "0/0:0-31;0/1:0-31");
        int[][] values = {{40, 4, 90}, {6, 0, 20}, {0, 0, 1}, {1, 1, 8}, {6, 1, 12}};
        for (int setting = 0; setting < 5; setting++) {
            int[] v = values[setting];
            Check.due("the first value", v[0], x.set(setting, v[1]));
            Check.due("the least value", v[1], x.set(setting, v[2]));
            Check.due("the most", v[2], x.count(12 + setting));
        }
        Check.due("pins stay", 64, x.count(10));
        x.undo();
        Check.due("undone", 1, x.count(16));
    }

    private static void setRefuses() {
        PinCylinder x = new PinCylinder();
        Check.noIndex("set(5, 1)", x, () -> x.set(5, 1));
        Check.noIndex("set(-1, 1)", x, () -> x.set(-1, 1));
        Check.noIndex("set(5, -1000)", x, () -> x.set(5, -1000));
        int[][] limits = {{4, 90}, {0, 20}, {0, 1}, {1, 8}, {1, 12}};
        for (int i = 0; i < 5; i++) {
            int setting = i;
            Check.noArgument("set " + i, x, () -> x.set(setting, limits[setting][0] - 1));
            Check.noArgument("set " + i, x, () -> x.set(setting, limits[setting][1] + 1));
        }
    }
}
