import java.lang.reflect.InvocationTargetException;
import java.lang.reflect.Method;
import java.lang.reflect.Modifier;
import java.util.ArrayList;
import java.util.List;

/** What the tests of the document's edges share: objects to begin with, and calls that must be refused. */
final class Edges {
    static final Class<IndexOutOfBoundsException> INDEX = IndexOutOfBoundsException.class;
    static final Class<IllegalArgumentException> ARGUMENT = IllegalArgumentException.class;
    static final Class<IllegalStateException> STATE = IllegalStateException.class;

    /** Makes objects that are all alike. */
    interface Maker {
        PinCylinder make();
    }

    interface Call {
        Object on(PinCylinder x);
    }

    interface ValueCall {
        Object on(PinCylinder x, int value);
    }

    /** Objects of all sorts, as a wrong argument must be refused by each. */
    private static final Maker[] ALL = {PinCylinder::new, Edges::begun, Edges::busy};

    private Edges() {
    }

    /** Runs each test of the class: each static method without parameters that is not private. */
    static void runAll(Class<?> tests) throws IllegalAccessException {
        int run = 0;
        for (Method test : tests.getDeclaredMethods()) {
            boolean open = Modifier.isStatic(test.getModifiers()) && !Modifier.isPrivate(test.getModifiers());
            if (open && test.getParameterCount() == 0 && test.getReturnType() == void.class) {
                runOne(test);
                run++;
            }
        }
        System.out.println(run + " tests of " + tests.getName());
    }

    private static void runOne(Method test) throws IllegalAccessException {
        Check.inTest(test.getName());
        test.setAccessible(true);
        try {
            test.invoke(null);
        } catch (InvocationTargetException e) {
            Check.fail("it threw " + e.getCause());
        }
        Check.inTest("");
    }

    // ---- objects to begin with

    /** Some saved states, no snapshot, and pins as a text in the buffer. */
    static PinCylinder begun() {
        PinCylinder x = new PinCylinder();
        x.pin(0, 0, 0);
        x.pin(2, 11, 31);
        x.wind(30);
        x.play(2);
        Check.write(x, "1/4:2,7-19;0/1:3");
        return x;
    }

    /** Six saved states, a snapshot, more notes than are kept, teeth worn and broken, and half a text in the buffer. */
    static PinCylinder busy() {
        PinCylinder x = new PinCylinder();
        x.set(0, 90);
        x.set(1, 12);
        Check.set(x, "0/0:0-31;0/3:1,5,9;1/11:30-31,0;2/6:4-20");
        x.wind(400);
        x.play(9);
        x.keep();
        x.play(5);
        x.set(2, 1);
        x.copy(0, 1, 5, 2);
        x.wind(200);
        x.play(30);
        x.vanes(3);
        x.pull(0, 0, 3, 7);
        Check.write(x, "1/4:2,7-1");
        return x;
    }

    /** A pin in each step, for each tooth of the tunes up to this one. */
    static PinCylinder full(int lastTune) {
        PinCylinder x = new PinCylinder();
        x.set(4, 12);
        for (int tooth = 0; tooth < 12; tooth++) {
            Check.set(x, "0/" + tooth + ":0-31");
        }
        for (int tune = 1; tune <= lastTune; tune++) {
            x.copy(0, tune, 0, 0);
        }
        return x;
    }

    /** The tooth 0 has squeaked so often, at 10 ticks a step, and rings for 90; it has a pin in each step. */
    static PinCylinder squeaked(int times) {
        PinCylinder x = new PinCylinder();
        Check.set(x, "0/0:0-31");
        x.set(0, 90);
        x.set(1, 20);
        x.wind(400);
        x.play(1 + times);
        return x;
    }

    /** All that is saved is undone. */
    static PinCylinder undone(PinCylinder x) {
        for (int left = x.count(17); left > 0; left--) {
            x.undo();
        }
        return x;
    }

    /** The buffer is full. */
    static PinCylinder filled(PinCylinder x) {
        x.clearBuffer();
        Check.write(x, "0/1:1-2;".repeat(7) + "0/2:");
        return x;
    }

    // ---- what a call answers

    static String answer(PinCylinder x, Call call) {
        try {
            return String.valueOf(call.on(x));
        } catch (RuntimeException e) {
            return e.getClass().getName();
        }
    }

    /** What calls that come later show: of the state, of what is saved, of the snapshot, and of the buffer. */
    static List<String> later(PinCylinder x) {
        List<String> told = new ArrayList<>();
        told.add("digest " + x.digest());
        told.add("firstError " + x.firstError());
        for (int tooth = 0; tooth < 12; tooth++) {
            told.add("whyNot " + x.whyNot(0, tooth, 2 * tooth));
        }
        told.add("windFor " + x.windFor(9));
        for (int left = x.count(17); left > 0; left--) {
            tell(told, "undo", x, p -> p.undo());
        }
        tell(told, "restore", x, p -> p.restore());
        tell(told, "undo of it", x, p -> p.undo());
        tell(told, "pins", x, p -> p.pins());
        tell(told, "clearBuffer", x, p -> p.clearBuffer());
        tell(told, "wind", x, p -> p.wind(300));
        tell(told, "play on", x, p -> p.play(128));
        return told;
    }

    private static void tell(List<String> told, String name, PinCylinder x, Call call) {
        told.add(name + " " + answer(x, call));
        told.add("digest behind " + name + " " + x.digest());
    }

    static void alike(String name, PinCylinder x, PinCylinder y) {
        List<String> is = later(x);
        List<String> due = later(y);
        for (int i = 0; i < due.size(); i++) {
            if (!is.get(i).equals(due.get(i))) {
                Check.fail(name + " shows later: " + is.get(i) + ", due is " + due.get(i));
                return;
            }
        }
    }

    // ---- refused calls, and calls that change nothing

    /** Of two objects that are alike one is asked for what must be refused: they must stay alike. */
    static void refused(String name, Class<? extends RuntimeException> kind, Maker maker, Call call) {
        PinCylinder x = maker.make();
        String got = answer(x, call);
        if (!got.equals(kind.getName())) {
            Check.fail(name + " answered " + got + ", due is " + kind.getName());
        }
        alike("the refused " + name, x, maker.make());
    }

    static void refusedByAll(String name, Class<? extends RuntimeException> kind, Call call) {
        for (Maker maker : ALL) {
            refused(name, kind, maker, call);
        }
    }

    /** A parameter's least and greatest value are taken by a new object; those beyond them by none. */
    static void ends(String name, int least, int most, Class<? extends RuntimeException> beyond, ValueCall call) {
        endsOf(PinCylinder::new, name, least, most, beyond, call);
    }

    static void endsOf(Maker maker, String name, int least, int most, Class<? extends RuntimeException> beyond,
            ValueCall call) {
        for (int value : new int[] {least, most}) {
            String got = answer(maker.make(), x -> call.on(x, value));
            if (got.contains("Exception")) {
                Check.fail(name + " of " + value + " answered " + got);
            }
        }
        refused(name + " of " + (least - 1), beyond, maker, x -> call.on(x, least - 1));
        refused(name + " of " + (most + 1), beyond, maker, x -> call.on(x, most + 1));
        for (int value : new int[] {least - 1, most + 1, Integer.MIN_VALUE, Integer.MAX_VALUE}) {
            refusedByAll(name + " of " + value, beyond, x -> call.on(x, value));
        }
    }

    /** The call changes nothing that later calls show. */
    static void changesNothing(String name, Call call) {
        for (Maker maker : ALL) {
            PinCylinder x = maker.make();
            answer(x, call);
            alike(name, x, maker.make());
        }
    }

    /** The call saves one state, at most the sixth, and undo leaves nothing of the call. */
    static void undoable(String name, Maker maker, Call call) {
        PinCylinder x = maker.make();
        int saved = Math.min(6, x.count(17) + 1);
        String got = answer(x, call);
        if (got.contains("Exception")) {
            Check.fail(name + " answered " + got);
        }
        Check.due("saved states behind " + name, saved, x.count(17));
        Check.due("undo of " + name, saved - 1, x.undo());
        PinCylinder y = maker.make();
        y.wind(1);
        y.undo();
        alike("undo of " + name, x, y);
    }

    static void undoableByAll(String name, Call call) {
        for (Maker maker : ALL) {
            undoable(name, maker, call);
        }
    }
}
