/** The edges that the document names for promises 5 to 10, and for "The comb", "Playing" and "Settings". */
public final class EdgePlayTest {
    private static final int[][] LIMITS = {{4, 90}, {0, 20}, {0, 1}, {1, 8}, {1, 12}};
    private static final int[] FIRST_VALUES = {40, 6, 0, 1, 6};

    private EdgePlayTest() {
    }

    public static void main(String[] args) throws IllegalAccessException {
        Edges.runAll(EdgePlayTest.class);
        Check.end();
    }

    /** Pins of the teeth 0 on in the step 0, and this wind, 0 to 400. */
    private static PinCylinder pinsInStep0(int pins, int wind) {
        PinCylinder x = new PinCylinder();
        x.set(4, 12);
        for (int tooth = 0; tooth < pins; tooth++) {
            x.pin(0, tooth, 0);
        }
        if (wind > 0) {
            x.wind(wind);
        }
        return x;
    }

    /** A tooth with pins in the steps 0 and 1, that rings for so many ticks, at 10 ticks a step; the damper is late. */
    private static PinCylinder playedTwice(int ringing) {
        PinCylinder x = new PinCylinder();
        Check.set(x, "0/0:0-1");
        x.set(0, ringing);
        x.set(1, 20);
        x.wind(400);
        x.play(2);
        return x;
    }

    // ---- promise 5: wind

    static void windTakesTurns1To400() {
        Edges.ends("turns", 1, 400, Edges.ARGUMENT, (x, turns) -> x.wind(turns));
    }

    static void windReturnsTheWindThen() {
        Check.due("the least", 1, new PinCylinder().wind(1));
        Check.due("the greatest", 400, new PinCylinder().wind(400));
        PinCylinder x = new PinCylinder();
        x.wind(7);
        Check.due("more of it", 20, x.wind(13));
    }

    static void windIsAtMost400() {
        int[][] runs = {{399, 1, 400}, {398, 1, 399}, {399, 2, 400}, {1, 400, 400}, {400, 1, 400}, {400, 400, 400}};
        for (int[] run : runs) {
            PinCylinder x = new PinCylinder();
            x.wind(run[0]);
            Check.due(run[0] + " and " + run[1], run[2], x.wind(run[1]));
            Check.due("count 2", run[2], x.count(2));
        }
    }

    static void windIsUndoable() {
        Edges.undoableByAll("wind", x -> x.wind(400));
        Edges.undoable("wind of a spring that is full", () -> pinsInStep0(0, 400), x -> x.wind(1));
    }

    // ---- promise 6: vanes

    static void vanesTakes1To9() {
        Edges.ends("vanes", 1, 9, Edges.ARGUMENT, (x, vanes) -> x.vanes(vanes));
    }

    static void vanesReturnsThePreviousOnes() {
        PinCylinder x = new PinCylinder();
        Check.due("the first ones", 5, x.vanes(1));
        Check.due("the least", 1, x.vanes(9));
        Check.due("the greatest", 9, x.vanes(9));
        Check.due("count 3", 9, x.count(3));
    }

    static void vanesIsUndoable() {
        Edges.undoableByAll("vanes", x -> x.vanes(9));
        Edges.undoableByAll("the same vanes", x -> x.vanes(x.count(3)));
    }

    // ---- promise 7: shift

    static void shiftTakesTunes0To2() {
        Edges.ends("tune", 0, 2, Edges.INDEX, (x, tune) -> x.shift(tune));
    }

    static void shiftReturnsThePreviousTune() {
        PinCylinder x = new PinCylinder();
        Check.due("the first one", 0, x.shift(2));
        Check.due("the greatest", 2, x.shift(2));
        Check.due("the same", 2, x.shift(0));
        Check.due("count 1", 0, x.count(1));
    }

    static void shiftIsUndoable() {
        Edges.undoableByAll("shift", x -> x.shift(2));
        Edges.undoableByAll("shift to the same", x -> x.shift(x.count(1)));
    }

    // ---- promise 8: play

    static void playTakes1To128Steps() {
        Edges.ends("steps", 1, 128, Edges.ARGUMENT, (x, steps) -> x.play(steps));
        Edges.endsOf(Edges::busy, "steps", 1, 128, Edges.ARGUMENT, (x, steps) -> x.play(steps));
    }

    static void playGoesOnUntilItHasRunDown() {
        for (int wind = 0; wind <= 140; wind++) {
            for (int steps : new int[] {1, 2, 5, 127, 128}) {
                PinCylinder x = pinsInStep0(0, wind);
                int due = Math.min(wind, steps);
                Check.due("play " + steps + " with wind " + wind, due, x.play(steps));
                Check.due("the wind", wind - due, x.count(2));
                Check.due("steps so far", due, x.count(5));
                Check.due("wind needed", due, x.count(11));
                Check.due("the step", (31 + due) % 32, x.count(0));
            }
        }
    }

    static void playNeeds1OfTheWindAnd1MoreForEachPin() {
        for (int pins = 0; pins <= 12; pins++) {
            Check.due("a wind too little for " + pins, 0, pinsInStep0(pins, pins).play(1));
            PinCylinder x = pinsInStep0(pins, pins + 1);
            Check.due("just enough for " + pins, 1, x.play(1));
            Check.due("the wind then", 0, x.count(2));
            Check.due("wind needed", pins + 1, x.count(11));
            Check.due("notes", pins, x.count(6));
            PinCylinder y = pinsInStep0(pins, pins + 2);
            Check.due("one more than enough for " + pins, 1, y.play(1));
            Check.due("the wind left", 1, y.count(2));
        }
    }

    static void playNeedsNoWindForPinsOfBrokenTeeth() {
        PinCylinder x = Edges.squeaked(10);
        x.pin(0, 1, 11);
        int wind = x.count(2);
        Check.due("play", 1, x.play(1));
        Check.due("for the step and the whole tooth", wind - 2, x.count(2));
        x.play(1);
        Check.due("for the step alone", wind - 3, x.count(2));
        x.pull(0, 1, 11, 11);
        Check.due("steps to the end", wind - 3, x.play(128) + x.play(128) + x.play(128));
    }

    static void playOfARunDownCylinderMakesNothingDifferent() {
        for (int setting = 0; setting <= 1; setting++) {
            int shifting = setting;
            Edges.Maker maker = () -> {
                PinCylinder x = pinsInStep0(3, 3);
                x.pin(1, 0, 0);
                x.pin(1, 1, 0);
                x.pin(1, 2, 0);
                x.set(2, shifting);
                return x;
            };
            PinCylinder x = maker.make();
            PinCylinder y = maker.make();
            Check.due("play", 0, x.play(128));
            y.vanes(5);
            Edges.alike("play with too little wind", x, y);
        }
    }

    static void playOfARunDownCylinderStaysWithinATurnToo() {
        PinCylinder x = new PinCylinder();
        Check.set(x, "0/0:0;0/1:2;0/2:2");
        x.wind(5);
        Check.due("play", 2, x.play(128));
        Check.due("the step", 1, x.count(0));
        Check.due("the wind", 2, x.count(2));
        int time = x.count(4);
        int rings = x.tooth(0, 0);
        Check.due("play again", 0, x.play(1));
        Check.due("the time", time, x.count(4));
        Check.due("it rings on", rings, x.tooth(0, 0));
        x.wind(1);
        Check.due("play with the wind for it", 1, x.play(1));
        Check.due("the step then", 2, x.count(0));
    }

    static void playFollowsStep31WithStep0() {
        PinCylinder x = pinsInStep0(0, 400);
        for (int step = 0; step < 66; step++) {
            Check.due("play", 1, x.play(1));
            Check.due("the step", step % 32, x.count(0));
        }
        Check.due("a longer way", 128, x.play(128));
        Check.due("the same step", 65 % 32, x.count(0));
    }

    static void playIsUndoableAsOneCall() {
        Edges.undoableByAll("play", x -> x.play(128));
        Edges.undoable("play of 128 steps", () -> Edges.squeaked(0), x -> x.play(128));
        Edges.undoable("play without wind", PinCylinder::new, x -> x.play(1));
    }

    // ---- the tune of a turn

    static void theTuneIsTheNextOneAtStep0Alone() {
        PinCylinder x = pinsInStep0(0, 400);
        x.set(2, 1);
        int[] due = {1, 2, 0, 1, 2};
        for (int i = 0; i < 32 * due.length; i++) {
            x.play(1);
            Check.due("the tune behind " + (i + 1) + " steps", due[i / 32], x.count(1));
        }
    }

    static void theTuneStaysWithoutSetting2() {
        for (int tune = 0; tune < 3; tune++) {
            PinCylinder x = pinsInStep0(0, 400);
            x.shift(tune);
            Check.due("play", 33, x.play(33));
            Check.due("the tune", tune, x.count(1));
        }
    }

    static void theTuneThatComesIsTheOneThatNeedsWindAndIsHeard() {
        PinCylinder x = new PinCylinder();
        x.set(2, 1);
        x.shift(2);
        Check.set(x, "2/3:0;0/4:0;0/5:0");
        x.wind(2);
        Check.due("behind 2 comes 0, with two pins", 0, x.play(1));
        Check.due("the tune stays", 2, x.count(1));
        x.wind(1);
        Check.due("with wind for it", 1, x.play(1));
        Check.due("the tune then", 0, x.count(1));
        Check.due("the note", 5, x.note(0, 0));
        Check.due("the note before", 4, x.note(1, 0));
        Check.due("no other one", PinCylinder.NONE, x.note(2, 0));
    }

    // ---- the ticks of a step

    static void ticksAre12LessTheWindThenBy50AndTheVanes() {
        for (int wind = 1; wind <= 400; wind++) {
            for (int vanes = 1; vanes <= 9; vanes++) {
                PinCylinder x = new PinCylinder();
                x.vanes(vanes);
                x.wind(wind);
                x.play(1);
                Check.due("the time with wind " + wind + ", vanes " + vanes, 12 - (wind - 1) / 50 + vanes, x.count(4));
            }
        }
    }

    static void theWindOfTheTicksIsTheOneBehindThePins() {
        PinCylinder x = pinsInStep0(12, 362);
        x.play(1);
        Check.due("wind 349", 12 - 6 + 5, x.count(4));
        PinCylinder y = pinsInStep0(12, 363);
        y.play(1);
        Check.due("wind 350", 12 - 7 + 5, y.count(4));
    }

    // ---- ringing

    static void aToothRingsForSetting0Less2TimesItsNumberButAtLeast4() {
        for (int ringing = 4; ringing <= 90; ringing++) {
            PinCylinder x = pinsInStep0(12, 400);
            x.set(0, ringing);
            x.play(1);
            for (int tooth = 0; tooth < 12; tooth++) {
                int due = Math.max(4, ringing - 2 * tooth);
                Check.due("tooth " + tooth + ", setting 0 " + ringing, due, x.tooth(tooth, 0));
            }
            Check.due("teeth that ring", 12, x.count(8));
        }
    }

    static void aToothRestsIfItsTicksWouldBe0OrLess() {
        for (int ringing = 4; ringing <= 40; ringing++) {
            PinCylinder x = pinsInStep0(1, 400);
            x.set(0, ringing);
            x.play(1);
            for (int steps = 1; steps <= 4; steps++) {
                x.play(1);
                int left = Math.max(0, ringing - 10 * steps);
                Check.due(ringing + " ticks behind " + steps + " steps", left, x.tooth(0, 0));
                Check.due("teeth that ring", left > 0 ? 1 : 0, x.count(8));
            }
        }
    }

    static void aToothAtRestIsDamped() {
        Check.due("a tick less than the step", 0, playedTwice(9).count(7));
        Check.due("just the ticks of the step", 0, playedTwice(10).count(7));
        Check.due("a tick more than the step", 1, playedTwice(11).count(7));
    }

    // ---- dampers

    static void aDamperComesInTimeIfTheTicksAreMoreThanSetting1AndItsWear() {
        for (int wear = 0; wear <= 9; wear++) {
            for (int damping = 0; damping <= 20; damping++) {
                for (int vanes = 1; vanes <= 9; vanes++) {
                    damper(wear, damping, vanes);
                }
            }
        }
    }

    private static void damper(int wear, int damping, int vanes) {
        PinCylinder x = Edges.squeaked(wear);
        x.set(1, damping);
        x.vanes(vanes);
        int time = x.count(4);
        x.play(1);
        int ticks = x.count(4) - time;
        int squeak = ticks > damping + wear ? 0 : 1;
        int breaks = squeak == 1 && wear == 9 ? 1 : 0;
        String name = ticks + " ticks, damping " + damping + ", wear " + wear + ": ";
        Check.due(name + "squeaks", wear + squeak, x.count(7));
        Check.due(name + "wear then", Math.min(9, wear + squeak), x.tooth(0, 1));
        Check.due(name + "broken", breaks, x.tooth(0, 2));
        Check.due(name + "teeth broken", breaks, x.count(9));
        Check.due(name + "notes", wear + 2 - breaks, x.count(6));
        Check.due(name + "notes of it", wear + 2 - breaks, x.tooth(0, 3));
        Check.due(name + "ringing", breaks == 1 ? 0 : 90, x.tooth(0, 0));
    }

    static void theMostTicksComeInTimeForTheSlowestDamperThatIsNotWorn() {
        PinCylinder x = new PinCylinder();
        Check.set(x, "0/0:0-31");
        x.set(0, 90);
        x.set(1, 20);
        x.vanes(9);
        x.wind(40);
        x.play(2);
        Check.due("21 ticks each", 42, x.count(4));
        Check.due("squeaks", 0, x.count(7));
        Check.due("notes", 2, x.count(6));
    }

    static void wearOf9BreaksTheTooth() {
        PinCylinder x = Edges.squeaked(9);
        Check.due("wear before", 9, x.tooth(0, 1));
        Check.due("whole before", 0, x.tooth(0, 2));
        int wind = x.count(2);
        x.play(1);
        Check.due("it is counted", 10, x.count(7));
        Check.due("it needed wind all the same", wind - 2, x.count(2));
        Check.due("wear stays", 9, x.tooth(0, 1));
        Check.due("it is broken", 1, x.tooth(0, 2));
        Check.due("it rests", 0, x.tooth(0, 0));
        Check.due("no tooth rings", 0, x.count(8));
        Check.due("it is not plucked", 10, x.tooth(0, 3));
        Check.due("no note", 10, x.count(6));
    }

    static void aBrokenToothIsNeitherDampedNorPlucked() {
        PinCylinder x = Edges.squeaked(10);
        x.play(40);
        Check.due("squeaks", 10, x.count(7));
        Check.due("notes", 10, x.count(6));
        Check.due("wear", 9, x.tooth(0, 1));
        Check.due("ringing", 0, x.tooth(0, 0));
    }

    static void allTeethBreak() {
        PinCylinder x = Edges.full(0);
        x.set(0, 90);
        x.set(1, 20);
        x.wind(400);
        Check.due("play", 11, x.play(11));
        Check.due("teeth broken", 12, x.count(9));
        Check.due("notes", 120, x.count(6));
        Check.due("squeaks", 120, x.count(7));
        Check.due("wind needed", 11 * 13, x.count(11));
        Check.due("windFor", 32, x.windFor(1));
        Check.due("play on", 128, x.play(128));
        Check.due("notes then", 120, x.count(6));
    }

    // ---- notes

    static void theLatest24NotesAreKept() {
        for (int notes = 0; notes <= 60; notes++) {
            PinCylinder x = new PinCylinder();
            Check.set(x, "0/3:0-31;0/4:1,3,5,7,9,11");
            x.wind(400);
            while (x.count(6) < notes) {
                x.play(1);
            }
            int kept = Math.min(24, x.count(6));
            for (int back = 0; back < 24; back++) {
                Check.due("kept " + back + " of " + notes, back < kept ? 1 : 0, x.note(back, 0) >= 3 ? 1 : 0);
                Check.due("time " + back + " of " + notes, back < kept ? 1 : 0, x.note(back, 1) > 0 ? 1 : 0);
            }
        }
    }

    static void theOldestNoteIsLostFirst() {
        PinCylinder x = pinsInStep0(12, 400);
        Check.set(x, "0/5:1-30;0/7:31");
        x.play(13);
        Check.due("24 notes", 24, x.count(6));
        Check.due("the first one is the oldest", 0, x.note(23, 0));
        Check.due("its time", 10, x.note(23, 1));
        x.play(1);
        Check.due("then the second one is", 1, x.note(23, 0));
        Check.due("its time", 10, x.note(23, 1));
        x.play(10);
        Check.due("then the last one of the step 0", 11, x.note(23, 0));
        Check.due("its time", 10, x.note(23, 1));
        int time = x.count(4);
        x.play(1);
        Check.due("then the one of the step 1", 5, x.note(23, 0));
        Check.due("its time", 20, x.note(23, 1));
        Check.due("the time of the note before the latest", time, x.note(1, 1));
    }

    static void notesOfAStepComeFromTheTooth0On() {
        PinCylinder x = pinsInStep0(12, 400);
        x.play(1);
        for (int back = 0; back < 12; back++) {
            Check.due("note " + back, 11 - back, x.note(back, 0));
            Check.due("time " + back, 10, x.note(back, 1));
        }
        Check.due("note 12", PinCylinder.NONE, x.note(12, 0));
    }

    // ---- promise 9: mend

    static void mendTakesTeeth0To11() {
        Edges.ends("tooth", 0, 11, Edges.INDEX, (x, tooth) -> x.mend(tooth));
    }

    static void mendReturnsTheWearThatThereWas() {
        for (int wear = 0; wear <= 9; wear++) {
            PinCylinder x = Edges.squeaked(wear);
            Check.due("mend", wear, x.mend(0));
            Check.due("mend again", 0, x.mend(0));
        }
        Check.due("mend of a broken tooth", 9, Edges.squeaked(10).mend(0));
    }

    static void mendMakesAToothWholeUnwornAndRest() {
        for (int squeaks : new int[] {0, 1, 9, 10}) {
            PinCylinder x = Edges.squeaked(squeaks);
            int notes = x.tooth(0, 3);
            x.mend(0);
            for (int what = 0; what < 3; what++) {
                Check.due("tooth 0, " + what, 0, x.tooth(0, what));
            }
            Check.due("teeth that ring", 0, x.count(8));
            Check.due("teeth broken", 0, x.count(9));
            Check.due("its notes stay", notes, x.tooth(0, 3));
            Check.due("squeaks stay", squeaks, x.count(7));
            Check.due("play", 1, x.play(1));
            Check.due("it is plucked", notes + 1, x.tooth(0, 3));
            Check.due("as it rested, without a squeak", squeaks, x.count(7));
        }
    }

    static void mendLeavesTheOtherTeeth() {
        for (int tooth = 0; tooth < 12; tooth++) {
            PinCylinder x = Edges.full(0);
            x.set(0, 90);
            x.set(1, 20);
            x.wind(400);
            x.play(5);
            Check.due("mend", 4, x.mend(tooth));
            for (int other = 0; other < 12; other++) {
                Check.due("wear of " + other, other == tooth ? 0 : 4, x.tooth(other, 1));
                Check.due("ringing of " + other, other == tooth ? 0 : 90 - 2 * other, x.tooth(other, 0));
            }
            x.play(6);
            Check.due("teeth broken but for the mended one", 11, x.count(9));
            Check.due("the mended one", 0, x.tooth(tooth, 2));
            Check.due("mend of another one", 9, x.mend((tooth + 1) % 12));
            Check.due("teeth broken then", 10, x.count(9));
        }
    }

    static void mendIsUndoable() {
        Edges.undoableByAll("mend", x -> x.mend(0));
        Edges.undoableByAll("mend of a tooth that rests, unworn", x -> x.mend(10));
    }

    // ---- promise 10: set

    static void setTakesSettings0To4() {
        Edges.ends("setting", 0, 4, Edges.INDEX, (x, setting) -> x.set(setting, setting == 0 ? 4 : 1));
    }

    static void setTakesTheValuesOfEachSetting() {
        for (int i = 0; i < 5; i++) {
            int setting = i;
            Edges.ends("value " + i, LIMITS[i][0], LIMITS[i][1], Edges.ARGUMENT, (x, value) -> x.set(setting, value));
        }
    }

    static void setOfNoSuchSettingComesFirst() {
        Edges.refusedByAll("setting 5", Edges.INDEX, x -> x.set(5, Integer.MIN_VALUE));
        Edges.refusedByAll("setting -1", Edges.INDEX, x -> x.set(-1, Integer.MAX_VALUE));
    }

    static void setReturnsThePreviousValue() {
        for (int setting = 0; setting < 5; setting++) {
            PinCylinder x = new PinCylinder();
            Check.due("the first value", FIRST_VALUES[setting], x.set(setting, LIMITS[setting][0]));
            Check.due("the least value", LIMITS[setting][0], x.set(setting, LIMITS[setting][1]));
            Check.due("the greatest value", LIMITS[setting][1], x.set(setting, LIMITS[setting][1]));
            for (int other = 0; other < 5; other++) {
                int due = other == setting ? LIMITS[other][1] : FIRST_VALUES[other];
                Check.due("setting " + other, due, x.count(12 + other));
            }
        }
    }

    static void setLeavesPinsThatCouldNotBeSet() {
        PinCylinder x = Edges.full(2);
        x.set(3, 8);
        x.set(4, 1);
        Check.due("pins of all tunes", 1152, x.count(10));
        Check.due("chord", 4095, x.chord(2, 31));
    }

    static void setOfTheRingingLeavesTeethThatRing() {
        PinCylinder x = pinsInStep0(1, 400);
        x.set(0, 90);
        x.play(1);
        x.set(0, 4);
        Check.due("it rings as long as before", 90, x.tooth(0, 0));
    }

    static void setIsUndoable() {
        for (int i = 0; i < 5; i++) {
            int setting = i;
            Edges.undoableByAll("set " + i, x -> x.set(setting, LIMITS[setting][1]));
            Edges.undoableByAll("set " + i + " to the same", x -> x.set(setting, x.count(12 + setting)));
        }
    }
}
