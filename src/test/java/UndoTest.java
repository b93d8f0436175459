/** Saved states and the snapshot: promises 15 to 17. */
public final class UndoTest {
    private UndoTest() {
    }

    public static void main(String[] args) {
        undoableCalls();
        callsThatSaveNothing();
        atMostSixStates();
        undoBringsAllBack();
        keepAndRestore();
        restoreIsUndoable();
        snapshotOutlastsUndo();
        Check.end();
    }

    private static PinCylinder played() {
        PinCylinder x = new PinCylinder();
        Check.set(x, "0/0:0-31;0/3:1,5;1/11:30-31,0");
        x.set(0, 60);
        x.set(1, 10);
        x.wind(300);
        x.play(7);
        return x;
    }

    private static void undoable(String name, PinCylinder x, Check.Call call) {
        int saved = x.count(17);
        long before = x.digest();
        call.run();
        Check.due("saved states behind " + name, saved + 1, x.count(17));
        Check.due("undo of " + name, saved, x.undo());
        Check.due("digest behind undo of " + name, before, x.digest());
    }

    private static void undoableCalls() {
        PinCylinder x = played();
        x.keep();
        x.undo();
        x.undo();
        x.wind(300);
        undoable("pin", x, () -> x.pin(0, 9, 9));
        undoable("pull", x, () -> x.pull(0, 0, 3, 20));
        undoable("pull of none", x, () -> x.pull(2, 2, 3, 20));
        undoable("copy", x, () -> x.copy(0, 1, 3, 4));
        undoable("wind", x, () -> x.wind(50));
        undoable("vanes", x, () -> x.vanes(9));
        undoable("the same vanes", x, () -> x.vanes(5));
        undoable("shift", x, () -> x.shift(1));
        undoable("shift to the same", x, () -> x.shift(0));
        undoable("play", x, () -> x.play(77));
        undoable("mend", x, () -> x.mend(0));
        undoable("mend of a whole tooth", x, () -> x.mend(9));
        undoable("set", x, () -> x.set(3, 8));
        undoable("the same setting", x, () -> x.set(3, 1));
        undoable("restore", x, () -> x.restore());
        Check.write(x, "2/2:2");
        int before = x.count(10);
        Check.due("pins", 1, x.pins());
        x.undo();
        Check.due("pins undone", before, x.count(10));
        PinCylinder y = new PinCylinder();
        y.pin(0, 0, 0);
        undoable("play without wind", y, () -> y.play(9));
    }

    private static void callsThatSaveNothing() {
        PinCylinder x = played();
        x.undo();
        int saved = x.count(17);
        x.keep();
        x.append(48);
        x.firstError();
        x.clearBuffer();
        x.whyNot(0, 0, 0);
        x.next(0, 0, 0);
        x.tune(0, 0);
        x.chord(0, 0);
        x.tooth(0, 0);
        x.note(0, 0);
        x.ifPlayed(40, 0);
        x.fewestVanes();
        x.windFor(2);
        x.clean();
        x.digest();
        Check.due("saved states", saved, x.count(17));
    }

    private static void atMostSixStates() {
        PinCylinder x = new PinCylinder();
        for (int i = 1; i <= 9; i++) {
            x.wind(i);
            Check.due("saved states", Math.min(6, i), x.count(17));
        }
        int[] winds = {36, 28, 21, 15, 10, 6};
        for (int i = 0; i < 6; i++) {
            Check.due("states left", 5 - i, x.undo());
            Check.due("wind behind undo", winds[i], x.count(2));
        }
        Check.noState("undo of a state that was dropped", x, () -> x.undo());
        x.wind(100);
        Check.due("saved anew", 1, x.count(17));
        Check.due("undo anew", 0, x.undo());
        Check.due("wind at last", 6, x.count(2));
    }

    private static void undoBringsAllBack() {
        PinCylinder x = played();
        long before = x.digest();
        int note = x.note(0, 1);
        int saved = x.count(17);
        x.play(128);
        Check.due("undo", saved, x.undo());
        Check.due("the latest note", note, x.note(0, 1));
        Check.due("digest", before, x.digest());
        Check.write(x, "0/0");
        x.vanes(1);
        x.append(':');
        x.undo();
        Check.due("the buffer is not brought back", 4, x.clearBuffer());
    }

    private static void keepAndRestore() {
        PinCylinder x = played();
        Check.noState("restore without a snapshot", x, () -> x.restore());
        Check.due("keep", 37, x.keep());
        int time = x.count(4);
        int wear = x.tooth(0, 1);
        x.pull(0, 0, 0, 31);
        x.set(0, 4);
        x.vanes(9);
        x.play(20);
        Check.write(x, "1/1");
        Check.due("restore", 37, x.restore());
        Check.due("the time", time, x.count(4));
        Check.due("the wear", wear, x.tooth(0, 1));
        Check.due("a setting", 60, x.count(12));
        Check.due("the vanes", 5, x.count(3));
        Check.due("the buffer stays", 3, x.clearBuffer());
        x.pull(0, 0, 0, 31);
        Check.due("restore again", 37, x.restore());
        x.pull(0, 0, 0, 31);
        Check.due("keep in place of it", 5, x.keep());
        x.pin(2, 2, 2);
        Check.due("restore of the new one", 5, x.restore());
    }

    private static void restoreIsUndoable() {
        PinCylinder x = new PinCylinder();
        x.keep();
        x.pin(0, 0, 0);
        Check.due("restore", 0, x.restore());
        Check.due("saved states are not in the snapshot", 2, x.count(17));
        Check.due("undo", 1, x.undo());
        Check.due("the pin", 1, x.count(10));
    }

    private static void snapshotOutlastsUndo() {
        PinCylinder x = new PinCylinder();
        x.pin(0, 0, 0);
        x.keep();
        x.undo();
        Check.due("no pins", 0, x.count(10));
        Check.due("restore", 1, x.restore());
    }
}
