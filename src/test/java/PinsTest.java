/** A new object, and setting, pulling and copying pins: promises 1 to 4 and 18. */
public final class PinsTest {
    private PinsTest() {
    }

    public static void main(String[] args) {
        newObject();
        pinCounts();
        pinIsHindered();
        pinRefuses();
        pull();
        pullRefuses();
        copy();
        copyAtTheEdges();
        copyIsNotHindered();
        copyRefuses();
        reasons();
        reasonsInOrder();
        whyNotRefuses();
        Check.end();
    }

    private static void newObject() {
        PinCylinder x = new PinCylinder();
        int[] counts = {31, 0, 0, 5, 0, 0, 0, 0, 0, 0, 0, 0, 40, 6, 0, 1, 6, 0};
        for (int i = 0; i < counts.length; i++) {
            Check.due("count " + i + " of a new object", counts[i], x.count(i));
        }
        for (int tune = 0; tune < 3; tune++) {
            for (int step = 0; step < 32; step++) {
                Check.due("chord of a new object", 0, x.chord(tune, step));
            }
        }
        for (int tooth = 0; tooth < 12; tooth++) {
            for (int what = 0; what < 5; what++) {
                Check.due("tooth " + tooth + " of a new object", 0, x.tooth(tooth, what));
            }
        }
        Check.due("a note of a new object", -1, x.note(0, 0));
        Check.noState("restore of a new object", x, () -> x.restore());
        Check.noState("undo of a new object", x, () -> x.undo());
        Check.due("play of a new object", 0, x.play(1));
        Check.due("the empty buffer", 0, x.clearBuffer());
        Check.due("NONE", -1, PinCylinder.NONE);
    }

    private static void pinCounts() {
        PinCylinder x = new PinCylinder();
        Check.due("the first pin", 1, x.pin(0, 0, 0));
        Check.due("the last place", 1, x.pin(2, 11, 31));
        Check.due("a second pin", 2, x.pin(0, 11, 31));
        Check.due("a third pin", 3, x.pin(0, 5, 31));
        Check.due("chord", 1 << 11 | 1 << 5, x.chord(0, 31));
        Check.due("saved states", 4, x.count(17));
        x.undo();
        Check.due("chord behind undo", 1 << 11, x.chord(0, 31));
    }

    private static void pinIsHindered() {
        PinCylinder x = new PinCylinder();
        x.pin(1, 4, 0);
        Check.noState("pin that is there", x, () -> x.pin(1, 4, 0));
        x.set(3, 4);
        Check.noState("pin that is 3 apart", x, () -> x.pin(1, 4, 3));
        Check.noState("pin that is 3 apart around", x, () -> x.pin(1, 4, 29));
        Check.due("pin that is 4 apart", 2, x.pin(1, 4, 4));
        Check.due("pin that is 4 apart around", 3, x.pin(1, 4, 28));
        x.set(4, 1);
        Check.noState("pin in a full step", x, () -> x.pin(1, 5, 28));
        Check.due("pin of another tune in that step", 1, x.pin(0, 5, 28));
    }

    private static void pinRefuses() {
        PinCylinder x = new PinCylinder();
        int[][] wrong = {{-1, 0, 0}, {3, 0, 0}, {0, -1, 0}, {0, 12, 0}, {0, 0, -1}, {0, 0, 32},
            {Integer.MIN_VALUE, 0, 0}, {0, Integer.MAX_VALUE, 0}, {0, 0, Integer.MIN_VALUE}};
        x.pin(0, 0, 0);
        for (int[] w : wrong) {
            Check.noIndex("pin", x, () -> x.pin(w[0], w[1], w[2]));
            Check.noIndex("whyNot", x, () -> x.whyNot(w[0], w[1], w[2]));
            Check.noIndex("next", x, () -> x.next(w[0], w[1], w[2]));
        }
    }

    private static void pull() {
        PinCylinder x = new PinCylinder();
        Check.set(x, "0/3:0-31;0/4:0-31;1/3:0-31");
        Check.due("pull of one", 1, x.pull(0, 3, 7, 7));
        Check.due("pull of none", 0, x.pull(0, 3, 7, 7));
        Check.due("saved states", 3, x.count(17));
        Check.due("pull of some", 10, x.pull(0, 3, 1, 11));
        Check.due("below", 1 << 3 | 1 << 4, x.chord(0, 0));
        Check.due("first of the range", 1 << 4, x.chord(0, 1));
        Check.due("last of the range", 1 << 4, x.chord(0, 11));
        Check.due("above", 1 << 3 | 1 << 4, x.chord(0, 12));
        Check.due("another tune", 32, x.tune(1, 0));
        Check.due("pull of all", 21, x.pull(0, 3, 0, 31));
        Check.due("pins left", 32, x.tune(0, 0));
        x.undo();
        Check.due("pins behind undo", 53, x.tune(0, 0));
    }

    private static void pullRefuses() {
        PinCylinder x = new PinCylinder();
        x.pin(0, 0, 4);
        int[][] wrong = {{-1, 0, 0, 0}, {3, 0, 0, 0}, {0, -1, 0, 0}, {0, 12, 0, 0}, {0, 0, -1, 5}, {0, 0, 32, 32},
            {0, 0, 0, 32}, {0, 0, 5, -1}, {0, 0, 32, 4}, {0, 12, 5, 4}};
        for (int[] w : wrong) {
            Check.noIndex("pull", x, () -> x.pull(w[0], w[1], w[2], w[3]));
        }
        Check.noArgument("pull to less", x, () -> x.pull(0, 0, 5, 4));
        Check.noArgument("pull from 31 to 0", x, () -> x.pull(0, 0, 31, 0));
    }

    private static void copy() {
        PinCylinder x = new PinCylinder();
        x.pin(0, 0, 0);
        x.pin(0, 5, 31);
        x.pin(0, 11, 16);
        x.pin(1, 7, 7);
        Check.due("copy", 2, x.copy(0, 1, 1, 1));
        Check.due("the pin 0/0:0 in the copy", 1 << 1, x.chord(1, 1));
        Check.due("the pin 0/5:31 in the copy", 1 << 6, x.chord(1, 0));
        Check.due("beyond the comb", 0, x.chord(1, 17));
        Check.due("the pin that was there", 0, x.chord(1, 7));
        Check.due("the source", 3, x.tune(0, 0));
        Check.due("the copy", 2, x.tune(1, 0));
        Check.due("copy downwards and back", 1, x.copy(1, 2, -2, -2));
        Check.due("the pin 1/6:0 in the copy", 1 << 4, x.chord(2, 30));
        x.undo();
        x.undo();
        Check.due("the copy undone", 1 << 7, x.chord(1, 7));
        Check.due("pins undone", 1, x.tune(1, 0));
    }

    private static void copyAtTheEdges() {
        PinCylinder x = new PinCylinder();
        x.pin(2, 0, 0);
        x.pin(2, 11, 1);
        Check.due("copy by 31 and 11", 1, x.copy(2, 0, 31, 11));
        Check.due("tooth 0 moved to 11", 1 << 11, x.chord(0, 31));
        Check.due("copy by -31 and -11", 1, x.copy(2, 0, -31, -11));
        Check.due("tooth 11 moved to 0", 1, x.chord(0, 2));
        Check.due("copy by 0 and 0", 2, x.copy(2, 1, 0, 0));
        Check.due("the same place", 1, x.chord(1, 0));
        Check.due("copy of an empty tune", 2, x.pull(1, 0, 0, 31) + x.pull(1, 11, 0, 31));
        Check.due("copy of nothing", 0, x.copy(1, 2, 5, 5));
        Check.due("nothing is left", 0, x.tune(2, 0));
    }

    private static void copyIsNotHindered() {
        PinCylinder x = new PinCylinder();
        Check.set(x, "0/0:0-31;0/1:0-31");
        x.set(3, 8);
        x.set(4, 1);
        Check.due("copy against the settings", 64, x.copy(0, 2, 3, 0));
    }

    private static void copyRefuses() {
        PinCylinder x = new PinCylinder();
        x.pin(0, 0, 0);
        int[][] noTune = {{-1, 0, 0, 0}, {3, 0, 0, 0}, {0, -1, 0, 0}, {0, 3, 0, 0}, {3, 3, 99, 99}};
        for (int[] w : noTune) {
            Check.noIndex("copy", x, () -> x.copy(w[0], w[1], w[2], w[3]));
        }
        int[][] wrong = {{0, 0, 0, 0}, {0, 1, 32, 0}, {0, 1, -32, 0}, {0, 1, 0, 12}, {0, 1, 0, -12},
            {0, 1, Integer.MIN_VALUE, 0}, {0, 1, 0, Integer.MIN_VALUE}};
        for (int[] w : wrong) {
            Check.noArgument("copy", x, () -> x.copy(w[0], w[1], w[2], w[3]));
        }
    }

    private static void reasons() {
        PinCylinder x = new PinCylinder();
        Check.due("whyNot of an empty place", 0, x.whyNot(0, 0, 0));
        x.pin(0, 0, 31);
        Check.due("whyNot of a pin", 1, x.whyNot(0, 0, 31));
        Check.due("beside it, with 1 step between", 0, x.whyNot(0, 0, 0));
        x.set(3, 8);
        Check.due("7 apart around", 2, x.whyNot(0, 0, 6));
        Check.due("8 apart around", 0, x.whyNot(0, 0, 7));
        Check.due("7 apart below", 2, x.whyNot(0, 0, 24));
        Check.due("8 apart below", 0, x.whyNot(0, 0, 23));
        Check.due("another tooth", 0, x.whyNot(0, 1, 31));
        Check.due("another tune", 0, x.whyNot(1, 0, 30));
        for (int tooth = 1; tooth < 6; tooth++) {
            Check.due("the step is not full", 0, x.whyNot(0, tooth, 31));
            x.pin(0, tooth, 31);
        }
        Check.due("the step has 6", 3, x.whyNot(0, 6, 31));
        x.set(4, 12);
        Check.due("the step may have 12", 0, x.whyNot(0, 6, 31));
        x.set(4, 2);
        Check.due("the step has more than it may", 3, x.whyNot(0, 6, 31));
        Check.due("that step of another tune", 0, x.whyNot(1, 6, 31));
    }

    private static void reasonsInOrder() {
        PinCylinder x = new PinCylinder();
        x.pin(0, 0, 4);
        x.pin(0, 0, 5);
        x.pin(0, 1, 6);
        x.set(3, 3);
        x.set(4, 1);
        Check.due("1 before 2 and 3", 1, x.whyNot(0, 0, 4));
        Check.due("2 before 3", 2, x.whyNot(0, 0, 6));
        Check.due("3 alone", 3, x.whyNot(0, 2, 6));
    }

    private static void whyNotRefuses() {
        PinCylinder x = new PinCylinder();
        Check.noIndex("whyNot(3, 0, 0)", x, () -> x.whyNot(3, 0, 0));
        Check.noIndex("whyNot(0, 12, 0)", x, () -> x.whyNot(0, 12, 0));
        Check.noIndex("whyNot(0, 0, 32)", x, () -> x.whyNot(0, 0, 32));
    }
}
