import java.math.BigInteger;
import java.util.ArrayList;
import java.util.List;

/** The edges that the document names for what would be: promises 25 to 29. */
public final class EdgeForecastTest {
    private EdgeForecastTest() {
    }

    public static void main(String[] args) throws IllegalAccessException {
        Edges.runAll(EdgeForecastTest.class);
        Check.end();
    }

    private static PinCylinder wound(int wind) {
        PinCylinder x = new PinCylinder();
        if (wind > 0) {
            x.wind(wind);
        }
        return x;
    }

    /** The tooth 0 has pins in the steps 0 and 1; a full spring, so that a step takes 5 ticks and the vanes more. */
    private static PinCylinder twoPins(int damping) {
        PinCylinder x = new PinCylinder();
        Check.set(x, "0/0:0-1");
        x.set(1, damping);
        x.wind(400);
        return x;
    }

    // ---- promise 25: ifPlayed

    static void ifPlayedTakes1To128Steps() {
        for (int what = 0; what <= 4; what++) {
            int number = what;
            Edges.ends("steps", 1, 128, Edges.ARGUMENT, (x, steps) -> x.ifPlayed(steps, number));
        }
    }

    static void ifPlayedTakesWhat0To4() {
        Edges.ends("what", 0, 4, Edges.ARGUMENT, (x, what) -> x.ifPlayed(1, what));
        Edges.ends("what of 128 steps", 0, 4, Edges.ARGUMENT, (x, what) -> x.ifPlayed(128, what));
    }

    static void ifPlayedTellsUntilItHasRunDown() {
        for (int wind = 0; wind <= 130; wind++) {
            PinCylinder x = wound(wind);
            for (int steps : new int[] {1, 2, 127, 128}) {
                Check.due(steps + " steps with wind " + wind, Math.min(wind, steps), x.ifPlayed(steps, 0));
            }
        }
    }

    static void ifPlayedOfARunDownCylinderTells0() {
        PinCylinder x = new PinCylinder();
        Check.set(x, "0/0:0");
        x.wind(1);
        for (int what = 0; what <= 4; what++) {
            Check.due("what " + what, 0, x.ifPlayed(128, what));
        }
    }

    static void ifPlayedTellsWhatPlayBrings() {
        for (int before : new int[] {0, 1, 9, 10, 11, 40}) {
            for (int steps : new int[] {1, 2, 11, 12, 31, 32, 33, 128}) {
                PinCylinder x = Edges.squeaked(before);
                int[] counted = {5, 6, 7, 4, 9};
                int[] told = new int[5];
                int[] was = new int[5];
                for (int what = 0; what < 5; what++) {
                    told[what] = x.ifPlayed(steps, what);
                    was[what] = x.count(counted[what]);
                }
                x.play(steps);
                for (int what = 0; what < 5; what++) {
                    Check.due("what " + what + " of " + steps, x.count(counted[what]) - was[what], told[what]);
                }
            }
        }
    }

    static void ifPlayedTellsTeethThatWouldBreakButNotThoseThatAre() {
        Check.due("a step before", 0, Edges.squeaked(8).ifPlayed(1, 4));
        Check.due("in the next step", 1, Edges.squeaked(9).ifPlayed(1, 4));
        Check.due("in two steps", 1, Edges.squeaked(8).ifPlayed(2, 4));
        Check.due("behind it", 0, Edges.squeaked(10).ifPlayed(128, 4));
        PinCylinder x = Edges.full(0);
        x.set(0, 90);
        x.set(1, 20);
        x.wind(400);
        Check.due("all teeth", 12, x.ifPlayed(11, 4));
    }

    static void ifPlayedShiftsAroundFrom2To0() {
        PinCylinder x = new PinCylinder();
        Check.set(x, "0/0:0;0/1:0;2/2:0");
        x.set(2, 1);
        x.shift(2);
        x.wind(400);
        Check.due("notes of the tune 0", 2, x.ifPlayed(1, 1));
        Check.due("of the tunes 0 and 1", 2, x.ifPlayed(64, 1));
        Check.due("of all tunes", 3, x.ifPlayed(65, 1));
        Check.due("the tune stays", 2, x.count(1));
    }

    static void ifPlayedChangesNothing() {
        for (int what = 0; what <= 4; what++) {
            int number = what;
            Edges.changesNothing("ifPlayed " + what, x -> x.ifPlayed(128, number));
        }
    }

    // ---- promise 26: fewestVanes

    static void fewestVanesIs1WithoutASqueak() {
        Check.due("a new object", 1, new PinCylinder().fewestVanes());
        Check.due("without pins", 1, wound(400).fewestVanes());
        Check.due("a damper that is fast enough", 1, twoPins(5).fewestVanes());
    }

    static void fewestVanesFrom1To9AndNone() {
        for (int damping = 6; damping <= 13; damping++) {
            Check.due("damping " + damping, damping - 4, twoPins(damping).fewestVanes());
        }
        for (int damping = 14; damping <= 20; damping++) {
            Check.due("damping " + damping, PinCylinder.NONE, twoPins(damping).fewestVanes());
        }
    }

    static void fewestVanesIsTheSameWhateverTheVanesAre() {
        for (int vanes = 1; vanes <= 9; vanes++) {
            PinCylinder x = twoPins(9);
            x.vanes(vanes);
            Check.due("with vanes " + vanes, 5, x.fewestVanes());
            Check.due("the vanes stay", vanes, x.count(3));
        }
    }

    static void fewestVanesLooksAtTheNext32Steps() {
        PinCylinder x = new PinCylinder();
        Check.set(x, "1/0:31;2/0:0");
        x.set(1, 20);
        x.set(2, 1);
        x.wind(400);
        Check.due("the squeak is in the 33rd step", 1, x.fewestVanes());
        for (int late = 32; late >= 1; late--) {
            x.play(1);
            Check.due("the squeak is " + late + " steps away", PinCylinder.NONE, x.fewestVanes());
        }
        x.play(1);
        Check.due("the squeak has been", 1, x.count(7));
        Check.due("none is to come", 1, x.fewestVanes());
    }

    static void fewestVanesDoesNotCountSqueaksSoFar() {
        PinCylinder x = twoPins(20);
        x.play(2);
        Check.due("a squeak so far", 1, x.count(7));
        x.pull(0, 0, 0, 0);
        Check.due("none to come", 1, x.fewestVanes());
    }

    static void fewestVanesHearsNoSqueakBeyondTheWind() {
        PinCylinder x = new PinCylinder();
        Check.set(x, "0/0:0-1");
        x.set(1, 20);
        x.wind(3);
        Check.due("run down before the squeak", 1, x.fewestVanes());
        x.wind(1);
        Check.due("with wind for it", 9, x.fewestVanes());
    }

    static void fewestVanesChangesNothing() {
        Edges.changesNothing("fewestVanes", x -> x.fewestVanes());
    }

    // ---- promise 27: windFor

    static void windForTakes1To9Turns() {
        Edges.ends("turns", 1, 9, Edges.ARGUMENT, (x, turns) -> x.windFor(turns));
    }

    static void windForIs32ForATurnWithoutPins() {
        for (int turns = 1; turns <= 9; turns++) {
            Check.due("turns " + turns, 32 * turns, new PinCylinder().windFor(turns));
        }
    }

    static void windForOfAllPins() {
        PinCylinder x = Edges.full(0);
        for (int turns = 1; turns <= 9; turns++) {
            Check.due("turns " + turns, 13 * 32 * turns, x.windFor(turns));
        }
    }

    static void windForIsTheSameWhateverTheWindIs() {
        PinCylinder x = new PinCylinder();
        Check.set(x, "0/0:0-31");
        Check.due("without wind", 64 * 9, x.windFor(9));
        x.wind(400);
        Check.due("with all wind", 64 * 9, x.windFor(9));
    }

    static void windForBeginsWithTheNextStep() {
        for (int place = 0; place < 32; place++) {
            PinCylinder x = new PinCylinder();
            Check.set(x, "0/0:0;1/0:0-31;2/0:30-31");
            x.set(2, 1);
            x.wind(400);
            x.shift(2);
            x.play(1 + place);
            // What is left of the tune 0, and then the step 0 on of the tune 1.
            Check.due("from the step " + place, (31 - place) + 2 * (place + 1), x.windFor(1));
            int second = 2 * (31 - place) + (place + 1) + Math.max(0, place - 29);
            Check.due("two turns", (31 - place) + 2 * (place + 1) + second, x.windFor(2));
        }
    }

    static void windForStaysInTheTuneWithoutSetting2() {
        PinCylinder x = new PinCylinder();
        Check.set(x, "0/0:0;1/0:0-31");
        Check.due("the tune 0", 33 * 9, x.windFor(9));
        x.shift(1);
        Check.due("the tune 1", 64 * 9, x.windFor(9));
        x.shift(2);
        Check.due("the tune 2", 32 * 9, x.windFor(9));
    }

    static void windForShiftsAroundFrom2To0() {
        PinCylinder x = new PinCylinder();
        Check.set(x, "0/0:0;1/0:0-1;2/0:0-3");
        x.set(2, 1);
        x.shift(2);
        int due = 0;
        for (int turns = 1; turns <= 9; turns++) {
            due += 32 + (1 << (turns - 1) % 3);
            Check.due("turns " + turns, due, x.windFor(turns));
        }
    }

    static void windForLeavesOutTeethThatAreBrokenNow() {
        Check.due("worn, but whole", 64, Edges.squeaked(9).windFor(1));
        PinCylinder x = Edges.squeaked(10);
        Check.due("broken", 32, x.windFor(1));
        x.mend(0);
        Check.due("mended", 64, x.windFor(1));
    }

    static void windForChangesNothing() {
        Edges.changesNothing("windFor", x -> x.windFor(9));
    }

    // ---- promise 28: clean

    static void cleanIs1WithoutNotes() {
        Check.dueDouble("a new object", 1.0, new PinCylinder().clean());
        PinCylinder x = wound(400);
        x.play(128);
        Check.dueDouble("steps without notes", 1.0, x.clean());
    }

    static void cleanIs1WithoutSqueaks() {
        PinCylinder x = twoPins(0);
        x.play(2);
        Check.dueDouble("two notes", 1.0, x.clean());
    }

    static void cleanIs0WithAsManySqueaksAsNotes() {
        Check.dueDouble("ten of each", 0.0, Edges.squeaked(10).clean());
    }

    static void cleanIsTheShareAsADouble() {
        for (int squeaks = 0; squeaks <= 9; squeaks++) {
            double due = 1.0 / (1 + squeaks);
            Check.dueDouble("one of " + (1 + squeaks), due, Edges.squeaked(squeaks).clean());
        }
    }

    static void cleanChangesNothing() {
        Edges.changesNothing("clean", x -> x.clean());
    }

    // ---- promise 29: digest

    static void digestOfANewObject() {
        Check.due("digest", digestOf(new PinCylinder(), ""), new PinCylinder().digest());
    }

    static void digestStartsAt3797AndTakesEachValueInOrder() {
        digests(Edges.begun(), "1/4:2,7-19;0/1:3");
        digests(Edges.busy(), "1/4:2,7-1");
        digests(Edges.full(2), "");
    }

    static void digestTakesFrom0To24Notes() {
        for (int notes = 0; notes <= 30; notes++) {
            PinCylinder x = new PinCylinder();
            Check.set(x, "0/11:0-31");
            x.wind(400);
            if (notes > 0) {
                x.play(notes);
            }
            digests(x, "");
        }
    }

    static void digestTakesFrom0To60Characters() {
        StringBuilder text = new StringBuilder();
        for (int length = 0; length <= 60; length++) {
            PinCylinder x = new PinCylinder();
            Check.write(x, text.toString());
            digests(x, text.toString());
            text.append((char) (length % 2 == 0 ? 33 + length : 126 - length));
        }
    }

    static void digestTakesTheBitsOfEachShare() {
        for (int squeaks = 0; squeaks <= 11; squeaks++) {
            digests(Edges.squeaked(squeaks), "");
        }
        for (int steps = 1; steps <= 60; steps++) {
            PinCylinder x = Edges.squeaked(10);
            Check.set(x, "0/1:0-31;0/2:0-31;0/3:1,2,3,8");
            x.wind(400);
            x.play(steps);
            digests(x, "");
        }
    }

    static void digestChangesNothing() {
        Edges.changesNothing("digest", x -> x.digest());
    }

    private static void digests(PinCylinder x, String buffer) {
        Check.due("digest", digestOf(x, buffer), x.digest());
    }

    /** The list of the promise, asked for call by call; its overflow by arithmetic that has none. */
    private static long digestOf(PinCylinder x, String buffer) {
        List<Long> values = new ArrayList<>();
        for (int what = 0; what <= 17; what++) {
            values.add((long) x.count(what));
        }
        for (int tune = 0; tune < 3; tune++) {
            for (int what = 0; what <= 4; what++) {
                values.add((long) x.tune(tune, what));
            }
            for (int step = 0; step < 32; step++) {
                values.add((long) x.chord(tune, step));
            }
        }
        for (int tooth = 0; tooth < 12; tooth++) {
            for (int what = 0; what <= 4; what++) {
                values.add((long) x.tooth(tooth, what));
            }
        }
        for (int back = 0; back < 24 && x.note(back, 0) != PinCylinder.NONE; back++) {
            values.add((long) x.note(back, 0));
            values.add((long) x.note(back, 1));
        }
        for (int what = 0; what <= 4; what++) {
            values.add((long) x.ifPlayed(40, what));
        }
        values.add((long) x.fewestVanes());
        values.add((long) x.windFor(2));
        values.add(Double.doubleToLongBits(x.clean()));
        values.add((long) buffer.length());
        for (char sign : buffer.toCharArray()) {
            values.add((long) sign);
        }
        BigInteger hash = BigInteger.valueOf(3797);
        for (long value : values) {
            hash = hash.multiply(BigInteger.valueOf(31)).add(BigInteger.valueOf(value));
        }
        return hash.longValue();
    }
}
