/** The edges that the document names for undo and the snapshot: promises 15 to 17, "Undo, the snapshot". */
public final class EdgeUndoTest {
    private EdgeUndoTest() {
    }

    public static void main(String[] args) throws IllegalAccessException {
        Edges.runAll(EdgeUndoTest.class);
        Check.end();
    }

    /** Wound so often, by one turn each. */
    private static PinCylinder wound(int times) {
        PinCylinder x = new PinCylinder();
        for (int i = 0; i < times; i++) {
            x.wind(1);
        }
        return x;
    }

    private static PinCylinder undone(int wound, int undone) {
        PinCylinder x = wound(wound);
        for (int i = 0; i < undone; i++) {
            x.undo();
        }
        return x;
    }

    // ---- promise 15: undo

    static void undoWithoutSavedStatesIsRefused() {
        Edges.refused("undo of a new object", Edges.STATE, PinCylinder::new, x -> x.undo());
        Edges.refused("undo when all is undone", Edges.STATE, () -> undone(3, 3), x -> x.undo());
        Edges.refused("undo of a state that was dropped", Edges.STATE, () -> undone(7, 6), x -> x.undo());
        Edges.refused("undo when all is undone", Edges.STATE, () -> Edges.undone(Edges.begun()), x -> x.undo());
        Edges.refused("undo beside a snapshot", Edges.STATE, () -> Edges.undone(Edges.busy()), x -> x.undo());
    }

    static void undoReturnsHowManyAreLeft() {
        for (int times = 1; times <= 6; times++) {
            PinCylinder x = wound(times);
            for (int left = times - 1; left >= 0; left--) {
                Check.due("undo", left, x.undo());
                Check.due("saved states", left, x.count(17));
                Check.due("the wind", left, x.count(2));
            }
        }
    }

    static void atMost6StatesAreSaved() {
        for (int times = 0; times <= 20; times++) {
            Check.due("saved states behind " + times, Math.min(6, times), wound(times).count(17));
        }
    }

    static void theOldestStateIsDroppedFirst() {
        for (int times = 6; times <= 20; times++) {
            PinCylinder x = wound(times);
            for (int i = 1; i <= 6; i++) {
                Check.due("undo " + i, 6 - i, x.undo());
                Check.due("the wind behind undo " + i + " of " + times, times - i, x.count(2));
            }
            Check.thrown("undo of a dropped one", Edges.STATE, () -> x.undo());
        }
    }

    static void statesAreSavedAnewBehindUndo() {
        for (int undone = 0; undone <= 6; undone++) {
            for (int more = 1; more <= 8; more++) {
                savedAnew(undone, more);
            }
        }
    }

    private static void savedAnew(int undone, int more) {
        PinCylinder x = undone(9, undone);
        for (int i = 0; i < more; i++) {
            x.vanes(1 + i % 9);
        }
        int saved = Math.min(6, 6 - undone + more);
        Check.due("saved states", saved, x.count(17));
        for (int i = 1; i <= saved; i++) {
            Check.due("undo", saved - i, x.undo());
            Check.due("the wind", i <= more ? 9 - undone : 9 - undone - (i - more), x.count(2));
            Check.due("the vanes", i < more ? more - i : 5, x.count(3));
        }
    }

    static void undoIsNotUndoable() {
        PinCylinder x = wound(2);
        x.undo();
        Check.due("saved states", 1, x.count(17));
        Check.due("undo", 0, x.undo());
        Check.due("the wind", 0, x.count(2));
    }

    static void undoBringsBackAllThatIsCounted() {
        PinCylinder x = Edges.busy();
        long before = x.digest();
        x.vanes(9);
        x.undo();
        x.vanes(4);
        PinCylinder y = Edges.busy();
        y.vanes(4);
        Edges.alike("another call behind undo", x, y);
        Check.due("busy objects are alike", before, Edges.busy().digest());
    }

    static void undoLeavesTheBuffer() {
        PinCylinder x = wound(1);
        Check.write(x, "0/0:0");
        Check.due("undo", 0, x.undo());
        Check.due("firstError", 5, x.firstError());
        Check.due("pins", 1, x.pins());
        Check.due("undo of pins", 0, x.undo());
        Check.due("the buffer stays cleared", 0, x.clearBuffer());
    }

    static void undoLeavesTheSnapshot() {
        PinCylinder x = wound(1);
        x.pin(0, 0, 0);
        x.keep();
        x.undo();
        x.undo();
        Check.due("pins", 0, x.count(10));
        Check.due("restore", 1, x.restore());
        Check.due("the wind", 1, x.count(2));
    }

    static void aRefusedCallSavesNothing() {
        PinCylinder x = wound(1);
        Check.thrownBy(() -> x.wind(0));
        Check.thrownBy(() -> x.play(129));
        Check.thrownBy(() -> x.restore());
        Check.due("saved states", 1, x.count(17));
    }

    // ---- promise 16: keep

    static void keepReturnsThePinsOfAllTunes() {
        Check.due("without pins", 0, new PinCylinder().keep());
        Check.due("of all places", 1152, Edges.full(2).keep());
        PinCylinder x = new PinCylinder();
        x.pin(0, 0, 0);
        x.pin(1, 0, 0);
        x.pin(2, 11, 31);
        Check.due("one of each tune", 3, x.keep());
    }

    static void keepIsInPlaceOfTheOneBefore() {
        PinCylinder x = wound(3);
        x.keep();
        x.wind(4);
        x.keep();
        x.wind(5);
        x.restore();
        Check.due("the wind", 7, x.count(2));
        x.restore();
        Check.due("the one before is gone", 7, x.count(2));
    }

    static void keepIsNotUndoable() {
        PinCylinder x = wound(2);
        x.keep();
        Check.due("saved states", 2, x.count(17));
    }

    static void keepShowsInNoLook() {
        PinCylinder x = Edges.begun();
        long before = x.digest();
        x.keep();
        Check.due("digest", before, x.digest());
    }

    // ---- promise 17: restore

    static void restoreWithoutASnapshotIsRefused() {
        Edges.refused("restore", Edges.STATE, PinCylinder::new, x -> x.restore());
        Edges.refused("restore", Edges.STATE, Edges::begun, x -> x.restore());
        Edges.refused("restore with full saved states", Edges.STATE, () -> wound(8), x -> x.restore());
    }

    static void restoreReturnsThePinsOfAllTunesThen() {
        PinCylinder x = new PinCylinder();
        x.keep();
        x.pin(1, 0, 0);
        Check.due("without pins", 0, x.restore());
        PinCylinder y = Edges.full(2);
        y.keep();
        y.pull(0, 0, 0, 31);
        Check.due("of all places", 1152, y.restore());
    }

    static void theSnapshotStays() {
        PinCylinder x = wound(5);
        x.keep();
        for (int i = 0; i < 9; i++) {
            x.wind(1 + i);
            x.restore();
            Check.due("the wind", 5, x.count(2));
        }
    }

    static void theSnapshotIsNotChangedByWhatComesLater() {
        PinCylinder x = Edges.busy();
        PinCylinder y = Edges.busy();
        x.restore();
        long kept = x.digest();
        y.play(128);
        y.mend(0);
        y.copy(1, 0, 3, 3);
        y.set(0, 4);
        y.restore();
        Check.due("digest behind restore", kept, y.digest());
    }

    static void restoreBringsBackAllButTheBufferAndTheSavedStates() {
        PinCylinder x = wound(2);
        Check.write(x, "0/0");
        x.keep();
        x.append(':');
        x.wind(9);
        Check.due("restore", 0, x.restore());
        Check.due("saved states", 4, x.count(17));
        Check.due("the wind", 2, x.count(2));
        Check.due("the buffer", 4, x.clearBuffer());
        x.restore();
        Check.due("the buffer does not come back", 0, x.clearBuffer());
    }

    static void restoreIsUndoable() {
        Edges.undoable("restore", () -> {
            PinCylinder x = wound(2);
            x.keep();
            x.pin(0, 0, 0);
            x.play(1);
            return x;
        }, x -> x.restore());
        Edges.undoable("restore with six saved states", Edges::busy, x -> x.restore());
        Edges.undoable("restore of the same", () -> {
            PinCylinder x = new PinCylinder();
            x.keep();
            return x;
        }, x -> x.restore());
    }

    static void restoreDropsTheOldestStateOfSix() {
        PinCylinder x = wound(6);
        x.keep();
        x.restore();
        Check.due("saved states", 6, x.count(17));
        for (int wind = 6; wind >= 1; wind--) {
            x.undo();
            Check.due("the wind", wind, x.count(2));
        }
    }
}
