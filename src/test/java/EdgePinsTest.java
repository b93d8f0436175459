/** The edges that the document names for a new object and for pins: promises 1 to 4 and 18, and "The cylinder". */
public final class EdgePinsTest {
    private EdgePinsTest() {
    }

    public static void main(String[] args) throws IllegalAccessException {
        Edges.runAll(EdgePinsTest.class);
        Check.end();
    }

    /** A pin of the tooth 0 in this step, and steps between pins. */
    private static PinCylinder pinAt(int step, int apart) {
        PinCylinder x = new PinCylinder();
        x.pin(0, 0, step);
        x.set(3, apart);
        return x;
    }

    /** Pins of the teeth 0 on in the step 9 of the tune 1. */
    private static PinCylinder pinsInAStep(int pins) {
        PinCylinder x = new PinCylinder();
        x.set(4, 12);
        for (int tooth = 0; tooth < pins; tooth++) {
            x.pin(1, tooth, 9);
        }
        return x;
    }

    // ---- promise 1: a new object

    static void newObjectHasNoPins() {
        PinCylinder x = new PinCylinder();
        Check.due("pins of all tunes", 0, x.count(10));
        for (int tune = 0; tune < 3; tune++) {
            for (int step = 0; step < 32; step++) {
                Check.due("chord " + tune + ", " + step, 0, x.chord(tune, step));
            }
            for (int tooth = 0; tooth < 12; tooth++) {
                Check.due("next " + tune + ", " + tooth, PinCylinder.NONE, x.next(tune, tooth, 0));
            }
        }
    }

    static void newObjectHasNoSnapshot() {
        Edges.refused("restore", Edges.STATE, PinCylinder::new, x -> x.restore());
    }

    static void newObjectHasNoSavedState() {
        Check.due("saved states", 0, new PinCylinder().count(17));
        Edges.refused("undo", Edges.STATE, PinCylinder::new, x -> x.undo());
    }

    static void newObjectHasRunDown() {
        PinCylinder x = new PinCylinder();
        Check.due("wind", 0, x.count(2));
        Check.due("ifPlayed", 0, x.ifPlayed(1, 0));
        Check.due("play", 0, x.play(1));
    }

    static void newObjectHasAnEmptyBuffer() {
        PinCylinder x = new PinCylinder();
        Check.due("firstError", 0, x.firstError());
        Check.due("clearBuffer", 0, x.clearBuffer());
        Check.due("append", 1, x.append('0'));
    }

    static void newObjectStandsAtStep31WithTheTune0And5Vanes() {
        PinCylinder x = new PinCylinder();
        int[] due = {31, 0, 0, 5, 0, 0, 0, 0, 0, 0, 0, 0};
        for (int what = 0; what < due.length; what++) {
            Check.due("count " + what, due[what], x.count(what));
        }
    }

    static void newObjectHasTheFirstSettings() {
        PinCylinder x = new PinCylinder();
        int[] due = {40, 6, 0, 1, 6};
        for (int setting = 0; setting < due.length; setting++) {
            Check.due("setting " + setting, due[setting], x.count(12 + setting));
        }
    }

    static void newObjectHasTeethThatRestUnwornAndWhole() {
        PinCylinder x = new PinCylinder();
        for (int tooth = 0; tooth < 12; tooth++) {
            for (int what = 0; what < 5; what++) {
                Check.due("tooth " + tooth + ", " + what, 0, x.tooth(tooth, what));
            }
        }
        Check.due("notes kept", PinCylinder.NONE, x.note(0, 0));
    }

    static void newObjectsAreApart() {
        PinCylinder before = new PinCylinder();
        Edges.busy().keep();
        Edges.alike("an object that is older", before, new PinCylinder());
    }

    static void noneIsMinusOne() {
        Check.due("NONE", -1, PinCylinder.NONE);
    }

    // ---- promise 2: pin

    static void pinTakesTunes0To2() {
        Edges.ends("tune", 0, 2, Edges.INDEX, (x, tune) -> x.pin(tune, 5, 5));
    }

    static void pinTakesTeeth0To11() {
        Edges.ends("tooth", 0, 11, Edges.INDEX, (x, tooth) -> x.pin(1, tooth, 5));
    }

    static void pinTakesSteps0To31() {
        Edges.ends("step", 0, 31, Edges.INDEX, (x, step) -> x.pin(1, 9, step));
    }

    static void pinIsSetWhereItShouldBeAtAllEnds() {
        for (int tune : new int[] {0, 2}) {
            for (int tooth : new int[] {0, 11}) {
                for (int step : new int[] {0, 31}) {
                    PinCylinder x = new PinCylinder();
                    Check.due("pin", 1, x.pin(tune, tooth, step));
                    Check.due("chord", 1 << tooth, x.chord(tune, step));
                    Check.due("pins of all tunes", 1, x.count(10));
                }
            }
        }
    }

    static void pinReturnsThePinsOfThisTuneThen() {
        PinCylinder x = Edges.full(0);
        Check.due("the first pin of a tune beside a full one", 1, x.pin(1, 0, 0));
        Check.due("the second one", 2, x.pin(1, 11, 31));
        Check.due("the first one of the tune 2", 1, x.pin(2, 11, 31));
    }

    static void pinUntilTheTuneIsFull() {
        PinCylinder x = new PinCylinder();
        x.set(4, 12);
        for (int i = 0; i < 384; i++) {
            Check.due("pin " + i, i + 1, x.pin(2, i / 32, i % 32));
        }
        Check.due("pins", 384, x.tune(2, 0));
        Check.thrown("a pin too many", Edges.STATE, () -> x.pin(2, 0, 0));
    }

    static void pinThatIsThereIsRefused() {
        Edges.refused("pin", Edges.STATE, () -> pinAt(31, 1), x -> x.pin(0, 0, 31));
        Edges.refused("pin beside saved states that are full", Edges.STATE, Edges::busy, x -> x.pin(0, 0, 0));
    }

    static void pinTooNearIsRefused() {
        Edges.refused("pin 7 behind", Edges.STATE, () -> pinAt(31, 8), x -> x.pin(0, 0, 6));
        Edges.refused("pin 7 before", Edges.STATE, () -> pinAt(0, 8), x -> x.pin(0, 0, 25));
        Check.due("pin 8 behind", 2, pinAt(31, 8).pin(0, 0, 7));
        Check.due("pin 8 before", 2, pinAt(0, 8).pin(0, 0, 24));
    }

    static void pinInAFullStepIsRefused() {
        Edges.refused("the seventh pin", Edges.STATE, () -> {
            PinCylinder x = pinsInAStep(6);
            x.set(4, 6);
            return x;
        }, x -> x.pin(1, 11, 9));
        PinCylinder y = pinsInAStep(5);
        y.set(4, 6);
        Check.due("the sixth pin", 6, y.pin(1, 11, 9));
    }

    static void pinOfAWrongPlaceIsNotAskedForReasons() {
        Edges.Maker full = () -> Edges.full(2);
        Edges.refused("tune 3", Edges.INDEX, full, x -> x.pin(3, 0, 0));
        Edges.refused("tooth 12", Edges.INDEX, full, x -> x.pin(0, 12, 0));
        Edges.refused("step 32", Edges.INDEX, full, x -> x.pin(0, 0, 32));
        Edges.refused("step -1", Edges.INDEX, full, x -> x.pin(0, 0, -1));
        Edges.refused("pin in a full cylinder", Edges.STATE, full, x -> x.pin(2, 11, 31));
    }

    static void pinIsUndoable() {
        Edges.undoableByAll("pin", x -> x.pin(2, 0, 0));
    }

    // ---- promise 3: pull

    static void pullTakesTunes0To2() {
        Edges.ends("tune", 0, 2, Edges.INDEX, (x, tune) -> x.pull(tune, 0, 0, 31));
    }

    static void pullTakesTeeth0To11() {
        Edges.ends("tooth", 0, 11, Edges.INDEX, (x, tooth) -> x.pull(0, tooth, 0, 31));
    }

    static void pullTakesFrom0To31() {
        Edges.ends("from", 0, 31, Edges.INDEX, (x, from) -> x.pull(0, 0, from, 31));
    }

    static void pullTakesTo0To31() {
        Edges.ends("to", 0, 31, Edges.INDEX, (x, to) -> x.pull(0, 0, 0, to));
    }

    static void pullToLessThanFromIsRefused() {
        Edges.refusedByAll("1 to 0", Edges.ARGUMENT, x -> x.pull(0, 0, 1, 0));
        Edges.refusedByAll("31 to 30", Edges.ARGUMENT, x -> x.pull(2, 11, 31, 30));
        Edges.refusedByAll("31 to 0, around", Edges.ARGUMENT, x -> x.pull(0, 0, 31, 0));
    }

    static void pullFromAStepToTheSame() {
        for (int step : new int[] {0, 17, 31}) {
            PinCylinder x = Edges.full(1);
            Check.due("pull at " + step, 1, x.pull(0, 5, step, step));
            Check.due("it is gone", 4095 & ~(1 << 5), x.chord(0, step));
            Check.due("no other one", 383, x.tune(0, 0));
            Check.due("none of another tune", 384, x.tune(1, 0));
        }
    }

    static void pullOfAWrongPlaceComesFirst() {
        Edges.refusedByAll("tune 3", Edges.INDEX, x -> x.pull(3, 0, 5, 4));
        Edges.refusedByAll("tooth 12", Edges.INDEX, x -> x.pull(0, 12, 5, 4));
        Edges.refusedByAll("to -1", Edges.INDEX, x -> x.pull(0, 0, 5, -1));
        Edges.refusedByAll("from 32", Edges.INDEX, x -> x.pull(0, 0, 32, 31));
    }

    static void pullTakesTheEndsOfTheRangeAndNothingBeyond() {
        PinCylinder x = Edges.full(0);
        Check.due("pull", 5, x.pull(0, 11, 10, 14));
        for (int step = 0; step < 32; step++) {
            int due = step >= 10 && step <= 14 ? 2047 : 4095;
            Check.due("chord " + step, due, x.chord(0, step));
        }
    }

    static void pullOfNoneReturns0() {
        PinCylinder x = new PinCylinder();
        x.pin(0, 3, 9);
        Check.due("behind the pin", 0, x.pull(0, 3, 10, 31));
        Check.due("before the pin", 0, x.pull(0, 3, 0, 8));
        Check.due("of another tooth", 0, x.pull(0, 2, 0, 31));
        Check.due("of another tune", 0, x.pull(1, 3, 0, 31));
        Check.due("the pin", 1, x.pull(0, 3, 0, 31));
        Check.due("no pin any more", 0, x.pull(0, 3, 0, 31));
    }

    static void pullOfAll() {
        PinCylinder x = Edges.full(0);
        Check.due("pull", 32, x.pull(0, 0, 0, 31));
        Check.due("pins left", 352, x.tune(0, 0));
        Check.due("next", PinCylinder.NONE, x.next(0, 0, 0));
    }

    static void pullIsUndoable() {
        Edges.undoableByAll("pull", x -> x.pull(0, 0, 0, 0));
        Edges.undoableByAll("pull of none", x -> x.pull(2, 0, 0, 31));
    }

    // ---- promise 4: copy

    static void copyTakesFrom0To2() {
        Edges.ends("from", 0, 2, Edges.INDEX, (x, from) -> x.copy(from, 1, 0, 0));
    }

    static void copyTakesTo0To2() {
        Edges.ends("to", 0, 2, Edges.INDEX, (x, to) -> x.copy(1, to, 0, 0));
    }

    static void copyTakesStepsMinus31To31() {
        Edges.ends("steps", -31, 31, Edges.ARGUMENT, (x, steps) -> x.copy(0, 1, steps, 0));
    }

    static void copyTakesTeethMinus11To11() {
        Edges.ends("teeth", -11, 11, Edges.ARGUMENT, (x, teeth) -> x.copy(0, 1, 0, teeth));
    }

    static void copyToTheSameIsRefused() {
        for (int tune = 0; tune < 3; tune++) {
            int same = tune;
            Edges.refusedByAll("copy of " + tune, Edges.ARGUMENT, x -> x.copy(same, same, 0, 0));
            Edges.refusedByAll("copy of " + tune, Edges.ARGUMENT, x -> x.copy(same, same, 1, 1));
        }
    }

    static void copyOfNoSuchTuneComesFirst() {
        Edges.refusedByAll("the same, none", Edges.INDEX, x -> x.copy(3, 3, 0, 0));
        Edges.refusedByAll("the same, none", Edges.INDEX, x -> x.copy(-1, -1, 0, 0));
        Edges.refusedByAll("with steps", Edges.INDEX, x -> x.copy(0, 3, 32, 0));
        Edges.refusedByAll("with teeth", Edges.INDEX, x -> x.copy(-1, 0, 0, -12));
    }

    static void copyTurnsAroundTheCylinder() {
        for (int step = 0; step < 32; step++) {
            for (int steps = -31; steps <= 31; steps++) {
                PinCylinder x = new PinCylinder();
                x.pin(0, 4, step);
                Check.due("copy by " + steps, 1, x.copy(0, 1, steps, 0));
                Check.due("the pin of " + step, (step + steps + 32) % 32, x.next(1, 4, 0));
            }
        }
    }

    static void copyLeavesOutWhatIsBeyondTheComb() {
        for (int tooth = 0; tooth < 12; tooth++) {
            for (int teeth = -11; teeth <= 11; teeth++) {
                PinCylinder x = new PinCylinder();
                x.pin(0, tooth, 31);
                int moved = tooth + teeth;
                boolean stays = moved >= 0 && moved <= 11;
                Check.due(tooth + " by " + teeth, stays ? 1 : 0, x.copy(0, 2, 0, teeth));
                Check.due("chord of " + tooth + " by " + teeth, stays ? 1 << moved : 0, x.chord(2, 31));
                Check.due("pins of all tunes", stays ? 2 : 1, x.count(10));
            }
        }
    }

    static void copyOfAnEmptyTuneEmptiesTheOther() {
        PinCylinder x = Edges.full(0);
        Check.due("copy", 0, x.copy(1, 0, -31, 11));
        Check.due("pins", 0, x.count(10));
    }

    static void copyOfAFullTune() {
        PinCylinder x = Edges.full(0);
        Check.due("neither turned nor moved", 384, x.copy(0, 1, 0, 0));
        Check.due("turned", 384, x.copy(0, 2, -31, 0));
        Check.due("moved up", 32, x.copy(0, 1, 0, 11));
        Check.due("the tooth 11", 1 << 11, x.chord(1, 31));
        Check.due("moved down", 352, x.copy(0, 1, 31, -1));
        Check.due("the teeth 0 to 10", 2047, x.chord(1, 0));
        Check.due("the source stays", 384, x.tune(0, 0));
    }

    static void copyIsInPlaceOfWhatWasThere() {
        PinCylinder x = Edges.full(2);
        x.pull(0, 0, 0, 30);
        Check.due("copy", 353, x.copy(0, 2, 0, 0));
        Check.due("copy then", 4094, x.chord(2, 0));
        Check.due("with the last pin", 4095, x.chord(2, 31));
    }

    static void copyIsHinderedByNoReason() {
        PinCylinder x = Edges.full(0);
        x.set(3, 8);
        x.set(4, 1);
        Check.due("copy", 384, x.copy(0, 1, 5, 0));
    }

    static void copyIsUndoable() {
        Edges.undoableByAll("copy", x -> x.copy(0, 2, -31, 11));
        Edges.undoable("copy of nothing in place of nothing", PinCylinder::new, x -> x.copy(0, 1, 0, 0));
    }

    // ---- promise 18: whyNot, and the reasons

    static void whyNotTakesTunes0To2() {
        Edges.ends("tune", 0, 2, Edges.INDEX, (x, tune) -> x.whyNot(tune, 0, 0));
    }

    static void whyNotTakesTeeth0To11() {
        Edges.ends("tooth", 0, 11, Edges.INDEX, (x, tooth) -> x.whyNot(0, tooth, 0));
    }

    static void whyNotTakesSteps0To31() {
        Edges.ends("step", 0, 31, Edges.INDEX, (x, step) -> x.whyNot(0, 0, step));
    }

    static void whyNotChangesNothing() {
        Edges.changesNothing("whyNot", x -> x.whyNot(0, 0, 0));
    }

    static void stepsAreSoFarApartAsTheFewerOfBothWays() {
        for (int step = 0; step < 32; step++) {
            for (int apart = 1; apart <= 8; apart++) {
                PinCylinder x = pinAt(step, apart);
                for (int other = 0; other < 32; other++) {
                    int up = (other - step + 32) % 32;
                    int between = Math.min(up, 32 - up);
                    int due = between == 0 ? 1 : between < apart ? 2 : 0;
                    Check.due(other + " beside " + step + ", apart " + apart, due, x.whyNot(0, 0, other));
                }
            }
        }
    }

    static void aPinDoesNotHinderItselfByNearness() {
        Check.due("alone", 1, pinAt(0, 8).whyNot(0, 0, 0));
    }

    static void onlyPinsOfTheSameTuneAndToothAreTooNear() {
        PinCylinder x = pinAt(9, 8);
        for (int step = 0; step < 32; step++) {
            Check.due("tooth 1, step " + step, 0, x.whyNot(0, 1, step));
            Check.due("tune 1, step " + step, 0, x.whyNot(1, 0, step));
        }
    }

    static void aStepIsFullWithSetting4PinsOrMore() {
        for (int pins = 0; pins < 12; pins++) {
            PinCylinder x = pinsInAStep(pins);
            for (int most = 1; most <= 12; most++) {
                x.set(4, most);
                Check.due(pins + " pins of " + most, pins >= most ? 3 : 0, x.whyNot(1, 11, 9));
                Check.due("the step before", 0, x.whyNot(1, 11, 8));
                Check.due("the step behind", 0, x.whyNot(1, 11, 10));
                Check.due("another tune", 0, x.whyNot(2, 11, 9));
            }
        }
    }

    static void aStepOf12PinsHasNoPlaceLeft() {
        PinCylinder x = pinsInAStep(12);
        for (int tooth = 0; tooth < 12; tooth++) {
            Check.due("tooth " + tooth, 1, x.whyNot(1, tooth, 9));
        }
    }

    static void theFirstReasonThatAppliesIsTold() {
        PinCylinder x = new PinCylinder();
        Check.set(x, "0/0:0,31;0/1:1");
        x.set(4, 1);
        Check.due("3 alone, as 1 step is not fewer than 1", 3, x.whyNot(0, 0, 1));
        Check.due("1 before 3", 1, x.whyNot(0, 0, 0));
        x.set(3, 2);
        Check.due("2 before 3", 2, x.whyNot(0, 0, 1));
        Check.due("1 before 2 and 3", 1, x.whyNot(0, 0, 31));
        x.set(4, 12);
        Check.due("1 before 2", 1, x.whyNot(0, 0, 0));
        Check.due("2 alone", 2, x.whyNot(0, 0, 1));
    }
}
