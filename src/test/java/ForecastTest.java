import java.util.ArrayList;
import java.util.List;

/** What would be, the clean share and the digest: promises 25 to 29. */
public final class ForecastTest {
    private ForecastTest() {
    }

    public static void main(String[] args) {
        ifPlayed();
        ifPlayedBreaksTeeth();
        ifPlayedRefuses();
        fewestVanes();
        fewestVanesLooksAtOneTurn();
        windFor();
        windForWithShiftsAndBrokenTeeth();
        clean();
        digestOfANewObject();
        digestList();
        Check.end();
    }

    private static PinCylinder worn(int steps) {
        PinCylinder x = new PinCylinder();
        Check.set(x, "0/0:0-31;0/5:4,6,20");
        x.set(0, 90);
        x.set(1, 20);
        x.wind(400);
        if (steps > 0) {
            x.play(steps);
        }
        return x;
    }

    private static void ifPlayed() {
        PinCylinder x = worn(3);
        long before = x.digest();
        int[] told = new int[5];
        for (int what = 0; what < 5; what++) {
            told[what] = x.ifPlayed(9, what);
        }
        Check.due("nothing is changed", before, x.digest());
        int[] was = {x.count(5), x.count(6), x.count(7), x.count(4), x.count(9)};
        x.play(9);
        int[] is = {x.count(5), x.count(6), x.count(7), x.count(4), x.count(9)};
        int[] due = {9, 9, 9, 90, 1};
        for (int what = 0; what < 5; what++) {
            Check.due("ifPlayed " + what, is[what] - was[what], told[what]);
            Check.due("told " + what, due[what], told[what]);
        }
        PinCylinder y = new PinCylinder();
        y.wind(5);
        Check.due("until it runs down", 5, y.ifPlayed(128, 0));
        Check.due("ticks without much wind", 5 * 17, y.ifPlayed(128, 3));
        Check.due("one step", 1, y.ifPlayed(1, 0));
    }

    private static void ifPlayedBreaksTeeth() {
        PinCylinder x = worn(0);
        Check.due("none in 10 steps", 0, x.ifPlayed(10, 4));
        Check.due("one in 11 steps", 1, x.ifPlayed(11, 4));
        x.play(11);
        Check.due("not again", 0, x.ifPlayed(11, 4));
    }

    private static void ifPlayedRefuses() {
        PinCylinder x = worn(1);
        Check.noArgument("ifPlayed(0, 0)", x, () -> x.ifPlayed(0, 0));
        Check.noArgument("ifPlayed(129, 0)", x, () -> x.ifPlayed(129, 0));
        Check.noArgument("ifPlayed(1, 5)", x, () -> x.ifPlayed(1, 5));
        Check.noArgument("ifPlayed(1, -1)", x, () -> x.ifPlayed(1, -1));
    }

    private static void fewestVanes() {
        PinCylinder x = new PinCylinder();
        Check.due("without wind", 1, x.fewestVanes());
        Check.set(x, "0/0:0-1");
        x.wind(400);
        x.set(1, 5);
        Check.due("6 ticks with 1 vane", 1, x.fewestVanes());
        x.set(1, 6);
        Check.due("7 ticks with 2", 2, x.fewestVanes());
        x.vanes(9);
        Check.due("whatever the vanes are", 2, x.fewestVanes());
        x.set(1, 13);
        long before = x.digest();
        Check.due("14 ticks with 9", 9, x.fewestVanes());
        Check.due("nothing is changed", before, x.digest());
        x.set(1, 14);
        Check.due("none helps", PinCylinder.NONE, x.fewestVanes());
        x.set(0, 14);
        Check.due("with 14 ticks the tooth rests", 9, x.fewestVanes());
        x.play(2);
        Check.due("squeaks before do not count", 9, x.fewestVanes());
    }

    private static void fewestVanesLooksAtOneTurn() {
        PinCylinder x = new PinCylinder();
        Check.set(x, "0/0:30-31");
        x.set(1, 20);
        x.wind(400);
        Check.due("the squeak in the 32nd step", PinCylinder.NONE, x.fewestVanes());
        PinCylinder y = new PinCylinder();
        Check.set(y, "1/0:31;2/0:0");
        y.set(1, 20);
        y.set(2, 1);
        y.wind(400);
        Check.due("the squeak in the 33rd step", 1, y.fewestVanes());
        y.play(1);
        Check.due("the squeak comes near", PinCylinder.NONE, y.fewestVanes());
    }

    private static void windFor() {
        PinCylinder x = new PinCylinder();
        Check.due("windFor(1) without pins", 32, x.windFor(1));
        Check.due("windFor(9) without pins", 288, x.windFor(9));
        Check.set(x, "0/0:0-9;1/3:0-31;2/7:0");
        long before = x.digest();
        Check.due("windFor(1)", 42, x.windFor(1));
        Check.due("windFor(9)", 378, x.windFor(9));
        Check.due("nothing is changed", before, x.digest());
        x.shift(1);
        Check.due("another tune", 128, x.windFor(2));
        Check.noArgument("windFor(0)", x, () -> x.windFor(0));
        Check.noArgument("windFor(10)", x, () -> x.windFor(10));
    }

    private static void windForWithShiftsAndBrokenTeeth() {
        PinCylinder x = new PinCylinder();
        Check.set(x, "0/0:0-9;1/3:0-31;2/7:0");
        x.set(2, 1);
        Check.due("the tune 1 comes first", 64, x.windFor(1));
        Check.due("then 2", 64 + 33, x.windFor(2));
        Check.due("then 0", 64 + 33 + 42, x.windFor(3));
        x.wind(400);
        x.play(30);
        Check.due("from within a turn", 2 * 2 + 30 + 1, x.windFor(1));
        PinCylinder y = worn(11);
        Check.due("with a broken tooth", 32 + 3, y.windFor(1));
    }

    private static void clean() {
        PinCylinder x = new PinCylinder();
        Check.dueDouble("clean without notes", 1.0, x.clean());
        x = worn(1);
        Check.dueDouble("clean with a note", 1.0, x.clean());
        x.play(1);
        Check.dueDouble("clean with a squeak of two", 0.5, x.clean());
        x.play(1);
        Check.dueDouble("clean with two of three", 1.0 / 3.0, x.clean());
        x.play(30);
        Check.due("notes", 13, x.count(6));
        Check.due("squeaks", 11, x.count(7));
        Check.dueDouble("clean", 2.0 / 13.0, x.clean());
        PinCylinder y = new PinCylinder();
        Check.set(y, "0/0:0-31");
        y.set(0, 90);
        y.set(1, 20);
        y.wind(400);
        y.play(32);
        Check.dueDouble("as many squeaks as notes", 0.0, y.clean());
        Check.due("its digest", digestOf(y, ""), y.digest());
    }

    private static void digestOfANewObject() {
        Check.due("digest of a new object", digestOf(new PinCylinder(), ""), new PinCylinder().digest());
    }

    private static void digestList() {
        for (int steps = 0; steps < 64; steps++) {
            PinCylinder x = worn(steps);
            Check.write(x, "1/1:1~");
            long due = digestOf(x, "1/1:1~");
            Check.due("digest behind " + steps + " steps", due, x.digest());
            Check.due("digest again", due, x.digest());
        }
        PinCylinder x = worn(20);
        x.copy(0, 1, 5, 2);
        x.copy(1, 2, 5, 2);
        x.set(2, 1);
        x.play(70);
        Check.due("digest of three tunes", digestOf(x, ""), x.digest());
    }

    /** The list of promise 29, asked for call by call. */
    private static long digestOf(PinCylinder x, String buffer) {
        List<Long> values = new ArrayList<>();
        for (int what = 0; what <= 17; what++) {
            values.add((long) x.count(what));
        }
        for (int tune = 0; tune < 3; tune++) {
            for (int what = 0; what <= 4; what++) {
                values.add((long) x.tune(tune, what));
            }
            for (int step = 0; step < 32; step++) {
                values.add((long) x.chord(tune, step));
            }
        }
        for (int tooth = 0; tooth < 12; tooth++) {
            for (int what = 0; what <= 4; what++) {
                values.add((long) x.tooth(tooth, what));
            }
        }
        for (int back = 0; back < 24 && x.note(back, 0) != PinCylinder.NONE; back++) {
            values.add((long) x.note(back, 0));
            values.add((long) x.note(back, 1));
        }
        for (int what = 0; what <= 4; what++) {
            values.add((long) x.ifPlayed(40, what));
        }
        values.add((long) x.fewestVanes());
        values.add((long) x.windFor(2));
        values.add(Double.doubleToLongBits(x.clean()));
        values.add((long) buffer.length());
        for (char sign : buffer.toCharArray()) {
            values.add((long) sign);
        }
        long hash = 3797;
        for (long value : values) {
            hash = 31 * hash + value;
        }
        return hash;
    }
}
