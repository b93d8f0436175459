/** The edges that the document names for looks: promises 19 to 24. */
public final class EdgeLookTest {
    private EdgeLookTest() {
    }

    public static void main(String[] args) throws IllegalAccessException {
        Edges.runAll(EdgeLookTest.class);
        Check.end();
    }

    /** So many notes, one in each step, of the teeth 0 to 11 in turn, at 10 ticks a step. */
    private static PinCylinder heard(int notes) {
        PinCylinder x = new PinCylinder();
        for (int tooth = 0; tooth < 12; tooth++) {
            String further = tooth + 24 < 32 ? "," + (tooth + 24) : "";
            Check.set(x, "0/" + tooth + ":" + tooth + "," + (tooth + 12) + further);
        }
        x.wind(400);
        x.vanes(5);
        for (int i = 0; i < notes; i++) {
            x.play(1);
            if (x.count(2) < 390) {
                x.wind(400);
            }
        }
        return x;
    }

    private static PinCylinder withPins(String text) {
        PinCylinder x = new PinCylinder();
        Check.set(x, text);
        return x;
    }

    // ---- promise 19: next

    static void nextTakesTunes0To2() {
        Edges.ends("tune", 0, 2, Edges.INDEX, (x, tune) -> x.next(tune, 0, 0));
    }

    static void nextTakesTeeth0To11() {
        Edges.ends("tooth", 0, 11, Edges.INDEX, (x, tooth) -> x.next(0, tooth, 0));
    }

    static void nextTakesSteps0To31() {
        Edges.ends("step", 0, 31, Edges.INDEX, (x, step) -> x.next(0, 0, step));
    }

    static void nextIsTheFirstStepFromThisOneOnAndThenAround() {
        for (int first = 0; first < 32; first++) {
            for (int second = first; second < 32; second++) {
                PinCylinder x = withPins("2/11:" + first + "," + second);
                for (int step = 0; step < 32; step++) {
                    int due = step > second || step <= first ? first : second;
                    Check.due("next from " + step + " of " + first + ", " + second, due, x.next(2, 11, step));
                }
            }
        }
    }

    static void nextOfAToothWithoutPinsIsNone() {
        PinCylinder x = Edges.full(1);
        x.pull(1, 5, 0, 31);
        Check.due("a tune without pins", PinCylinder.NONE, x.next(2, 5, 0));
        Check.due("a tooth without pins", PinCylinder.NONE, x.next(1, 5, 31));
        Check.due("the tooth below", 31, x.next(1, 4, 31));
        Check.due("the tooth above", 0, x.next(1, 6, 0));
        Check.due("the tooth of another tune", 17, x.next(0, 5, 17));
    }

    static void nextChangesNothing() {
        Edges.changesNothing("next", x -> x.next(0, 0, 0));
    }

    // ---- promise 20: tune

    static void tuneTakesTunes0To2() {
        for (int what = 0; what <= 4; what++) {
            int number = what;
            Edges.ends("tune", 0, 2, Edges.INDEX, (x, tune) -> x.tune(tune, number));
        }
    }

    static void tuneTakesWhat0To4() {
        Edges.ends("what", 0, 4, Edges.ARGUMENT, (x, what) -> x.tune(0, what));
        Edges.ends("what of the tune 2", 0, 4, Edges.ARGUMENT, (x, what) -> x.tune(2, what));
    }

    static void tuneOfNoSuchTuneComesFirst() {
        Edges.refusedByAll("3, 5", Edges.INDEX, x -> x.tune(3, 5));
        Edges.refusedByAll("-1, -1", Edges.INDEX, x -> x.tune(-1, -1));
    }

    static void tuneWithoutPins() {
        PinCylinder x = Edges.full(1);
        for (int what = 0; what <= 4; what++) {
            Check.due("what " + what, 0, x.tune(2, what));
        }
    }

    static void tuneOfAllPlaces() {
        PinCylinder x = Edges.full(2);
        int[] due = {384, 384, 12, 0, 4095};
        for (int tune = 0; tune < 3; tune++) {
            for (int what = 0; what <= 4; what++) {
                Check.due("tune " + tune + ", what " + what, due[what], x.tune(tune, what));
            }
        }
    }

    static void tuneWithOnePin() {
        for (int tooth = 0; tooth < 12; tooth++) {
            for (int step = 0; step < 32; step++) {
                PinCylinder x = withPins("1/" + tooth + ":" + step);
                int[] due = {1, 1, 1, step, 1 << tooth};
                for (int what = 0; what <= 4; what++) {
                    Check.due("pin " + tooth + ", " + step + ", what " + what, due[what], x.tune(1, what));
                    Check.due("what " + what + " of another tune", 0, x.tune(0, what));
                }
            }
        }
    }

    static void tuneTellsTheFirstStepWithTheMostPins() {
        PinCylinder x = withPins("0/0:0,5,31;0/1:5,31;0/2:30");
        Check.due("the most", 2, x.tune(0, 2));
        Check.due("the first of two", 5, x.tune(0, 3));
        x.pin(0, 2, 31);
        Check.due("the most then", 3, x.tune(0, 2));
        Check.due("the last step", 31, x.tune(0, 3));
        x.pin(0, 3, 0);
        x.pin(0, 4, 0);
        Check.due("the first step", 0, x.tune(0, 3));
    }

    static void tuneChangesNothing() {
        Edges.changesNothing("tune", x -> x.tune(0, 1));
    }

    // ---- promise 21: chord

    static void chordTakesTunes0To2() {
        Edges.ends("tune", 0, 2, Edges.INDEX, (x, tune) -> x.chord(tune, 0));
    }

    static void chordTakesSteps0To31() {
        Edges.ends("step", 0, 31, Edges.INDEX, (x, step) -> x.chord(0, step));
    }

    static void chordHasTheBitOfEachToothWithAPin() {
        PinCylinder x = new PinCylinder();
        x.set(4, 12);
        int due = 0;
        for (int tooth = 0; tooth < 12; tooth++) {
            Check.due("teeth below " + tooth, due, x.chord(2, 31));
            x.pin(2, tooth, 31);
            due |= 1 << tooth;
        }
        Check.due("all teeth", 4095, x.chord(2, 31));
        Check.due("the step before", 0, x.chord(2, 30));
        Check.due("the step behind", 0, x.chord(2, 0));
        Check.due("another tune", 0, x.chord(1, 31));
    }

    static void chordChangesNothing() {
        Edges.changesNothing("chord", x -> x.chord(0, 0));
    }

    // ---- promise 22: tooth

    static void toothTakesTeeth0To11() {
        for (int what = 0; what <= 4; what++) {
            int number = what;
            Edges.ends("tooth", 0, 11, Edges.INDEX, (x, tooth) -> x.tooth(tooth, number));
        }
    }

    static void toothTakesWhat0To4() {
        Edges.ends("what", 0, 4, Edges.ARGUMENT, (x, what) -> x.tooth(0, what));
        Edges.ends("what of the tooth 11", 0, 4, Edges.ARGUMENT, (x, what) -> x.tooth(11, what));
    }

    static void toothOfNoSuchToothComesFirst() {
        Edges.refusedByAll("12, 5", Edges.INDEX, x -> x.tooth(12, 5));
        Edges.refusedByAll("-1, -1", Edges.INDEX, x -> x.tooth(-1, -1));
    }

    static void toothTellsTheTicksForWhichItRings0IfItRests() {
        PinCylinder x = withPins("0/0:0");
        x.set(0, 21);
        Check.due("before it is plucked", 0, x.tooth(0, 0));
        x.wind(400);
        int[] due = {21, 11, 1, 0, 0};
        for (int step = 0; step < due.length; step++) {
            x.play(1);
            Check.due("in the step " + step, due[step], x.tooth(0, 0));
            Check.due("a tooth without pins", 0, x.tooth(1, 0));
        }
    }

    static void toothTellsWearFrom0To9AndIfItIsBroken() {
        for (int squeaks = 0; squeaks <= 12; squeaks++) {
            PinCylinder x = Edges.squeaked(squeaks);
            Check.due("wear behind " + squeaks, Math.min(9, squeaks), x.tooth(0, 1));
            Check.due("broken behind " + squeaks, squeaks >= 10 ? 1 : 0, x.tooth(0, 2));
            Check.due("notes behind " + squeaks, Math.min(10, 1 + squeaks), x.tooth(0, 3));
        }
    }

    static void toothTellsItsNotesBeyondThoseThatAreKept() {
        PinCylinder x = withPins("0/3:0-31;0/4:0");
        x.wind(400);
        Check.due("none so far", 0, x.tooth(3, 3));
        x.play(96);
        Check.due("notes of the tooth 3", 96, x.tooth(3, 3));
        Check.due("notes of the tooth 4", 3, x.tooth(4, 3));
        Check.due("notes of the tooth 5", 0, x.tooth(5, 3));
    }

    static void toothTellsTheMostStepsFromAPinToTheNext() {
        for (int first = 0; first < 32; first++) {
            for (int second = first; second < 32; second++) {
                PinCylinder x = withPins("0/7:" + first + "," + second);
                int between = second - first;
                int due = between == 0 ? 32 : Math.max(between, 32 - between);
                Check.due("pins at " + first + ", " + second, due, x.tooth(7, 4));
            }
        }
    }

    static void toothTellsTheMostStepsOfThreePinsAndOfAll() {
        Check.due("first", 20, withPins("0/0:1,21,27").tooth(0, 4));
        Check.due("second", 20, withPins("0/0:1,7,27").tooth(0, 4));
        Check.due("around", 20, withPins("0/0:7,13,19").tooth(0, 4));
        Check.due("all pins", 1, Edges.full(0).tooth(11, 4));
    }

    static void toothWithoutPinsTells0Steps() {
        PinCylinder x = withPins("1/0:0;0/1:0");
        Check.due("no pin in the tune that is played", 0, x.tooth(0, 4));
        Check.due("one pin in it", 32, x.tooth(1, 4));
        x.shift(1);
        Check.due("one pin in the tune then", 32, x.tooth(0, 4));
        Check.due("none in it", 0, x.tooth(1, 4));
    }

    static void toothChangesNothing() {
        Edges.changesNothing("tooth", x -> x.tooth(0, 4));
    }

    // ---- promise 23: note

    static void noteTakesBack0To23() {
        Edges.ends("back, tooth", 0, 23, Edges.ARGUMENT, (x, back) -> x.note(back, 0));
        Edges.ends("back, time", 0, 23, Edges.ARGUMENT, (x, back) -> x.note(back, 1));
        Edges.endsOf(() -> heard(30), "back", 0, 23, Edges.ARGUMENT, (x, back) -> x.note(back, 0));
    }

    static void noteTakesWhat0And1() {
        Edges.ends("what", 0, 1, Edges.ARGUMENT, (x, what) -> x.note(0, what));
        Edges.ends("what of the oldest", 0, 1, Edges.ARGUMENT, (x, what) -> x.note(23, what));
    }

    static void noteIsNoneIfNotSoManyAreKept() {
        for (int notes = 0; notes <= 50; notes++) {
            PinCylinder x = heard(notes);
            Check.due("notes so far", notes, x.count(6));
            for (int back = 0; back < 24; back++) {
                int number = notes - 1 - back;
                int tooth = number >= 0 ? number % 32 % 12 : PinCylinder.NONE;
                int time = number >= 0 ? 10 * (number + 1) : PinCylinder.NONE;
                Check.due("tooth " + back + " of " + notes, tooth, x.note(back, 0));
                Check.due("time " + back + " of " + notes, time, x.note(back, 1));
            }
        }
    }

    static void noteOfTheTooth0IsNotNone() {
        PinCylinder x = heard(1);
        Check.due("tooth", 0, x.note(0, 0));
        Check.due("the one before", PinCylinder.NONE, x.note(1, 0));
    }

    static void noteChangesNothing() {
        Edges.changesNothing("note", x -> x.note(0, 0));
    }

    // ---- promise 24: count

    static void countTakesWhat0To17() {
        Edges.ends("what", 0, 17, Edges.ARGUMENT, (x, what) -> x.count(what));
    }

    static void countOfTheStepGoesFrom31To0() {
        PinCylinder x = new PinCylinder();
        Check.due("at first", 31, x.count(0));
        x.wind(400);
        for (int steps = 1; steps <= 33; steps++) {
            x.play(1);
            Check.due("behind " + steps, (31 + steps) % 32, x.count(0));
        }
    }

    static void countOfWindGoesFrom0To400() {
        PinCylinder x = new PinCylinder();
        Check.due("at first", 0, x.count(2));
        x.wind(400);
        Check.due("wound", 400, x.count(2));
        x.play(1);
        Check.due("behind a step", 399, x.count(2));
    }

    static void countOfTeethGoesFrom0To12() {
        PinCylinder x = Edges.full(0);
        x.set(0, 90);
        x.set(1, 20);
        x.wind(400);
        Check.due("teeth that ring at first", 0, x.count(8));
        x.play(1);
        Check.due("teeth that ring", 12, x.count(8));
        Check.due("teeth broken at first", 0, x.count(9));
        x.play(10);
        Check.due("teeth that ring then", 0, x.count(8));
        Check.due("teeth broken", 12, x.count(9));
    }

    static void countOfPinsGoesFrom0To1152() {
        Check.due("none", 0, new PinCylinder().count(10));
        Check.due("all", 1152, Edges.full(2).count(10));
        Check.due("of one tune", 384, Edges.full(0).count(10));
    }

    static void countOfSavedStatesGoesFrom0To6() {
        PinCylinder x = new PinCylinder();
        for (int i = 0; i <= 8; i++) {
            Check.due("saved states", Math.min(6, i), x.count(17));
            x.wind(1);
        }
    }

    static void countOfTheSettingsAndTheVanesAtBothEnds() {
        int[][] limits = {{4, 90}, {0, 20}, {0, 1}, {1, 8}, {1, 12}};
        for (int end = 0; end < 2; end++) {
            PinCylinder x = new PinCylinder();
            for (int setting = 0; setting < 5; setting++) {
                x.set(setting, limits[setting][end]);
            }
            x.vanes(end == 0 ? 1 : 9);
            for (int setting = 0; setting < 5; setting++) {
                Check.due("setting " + setting, limits[setting][end], x.count(12 + setting));
            }
            Check.due("vanes", end == 0 ? 1 : 9, x.count(3));
        }
    }

    static void countOfWhatWasNeededGoesOnBeyondTheWind() {
        PinCylinder x = withPins("0/0:0-31");
        x.wind(400);
        Check.due("play", 128, x.play(128));
        x.wind(400);
        Check.due("play on", 128, x.play(128));
        Check.due("wind needed", 512, x.count(11));
        Check.due("steps", 256, x.count(5));
        Check.due("notes", 256, x.count(6));
    }

    static void countChangesNothing() {
        for (int what = 0; what <= 17; what++) {
            int number = what;
            Edges.changesNothing("count " + what, x -> x.count(number));
        }
    }
}
