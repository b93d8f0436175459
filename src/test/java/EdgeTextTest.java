import java.util.HashSet;
import java.util.Set;

/** The edges that the document names for the buffer and for pins as a text: promises 11 to 14, "Input text". */
public final class EdgeTextTest {
    /** Steps and ranges, as the document tells them, and all that they begin with. */
    private static final Set<String> ITEMS = new HashSet<>();
    private static final Set<String> ITEM_BEGINNINGS = new HashSet<>();
    /** A tune, a tooth and the signs behind them, and all that they begin with. */
    private static final Set<String> HEADS = new HashSet<>();
    private static final Set<String> HEAD_BEGINNINGS = new HashSet<>();

    private EdgeTextTest() {
    }

    public static void main(String[] args) throws IllegalAccessException {
        tellTexts();
        Edges.runAll(EdgeTextTest.class);
        Check.end();
    }

    private static void tellTexts() {
        for (int from = 0; from < 32; from++) {
            begin(ITEMS, ITEM_BEGINNINGS, "" + from);
            for (int to = from + 1; to < 32; to++) {
                begin(ITEMS, ITEM_BEGINNINGS, from + "-" + to);
            }
        }
        for (int tune = 0; tune < 3; tune++) {
            for (int tooth = 0; tooth < 12; tooth++) {
                begin(HEADS, HEAD_BEGINNINGS, tune + "/" + tooth + ":");
            }
        }
    }

    private static void begin(Set<String> texts, Set<String> beginnings, String text) {
        texts.add(text);
        for (int i = 0; i <= text.length(); i++) {
            beginnings.add(text.substring(0, i));
        }
    }

    private static PinCylinder with(String text) {
        PinCylinder x = new PinCylinder();
        Check.write(x, text);
        return x;
    }

    private static String times(String text, int times) {
        return text.repeat(times);
    }

    private static void error(String text, int due) {
        Check.due("firstError of " + text, due, with(text).firstError());
    }

    private static void incomplete(String text) {
        error(text, text.length());
        Edges.refused("pins of " + text, Edges.ARGUMENT, () -> with(text), x -> x.pins());
        PinCylinder x = with(text);
        Check.thrown("pins of " + text, Edges.ARGUMENT, () -> x.pins());
        Check.due("the buffer stays", text.length(), x.clearBuffer());
    }

    /** Each sign behind this beginning must be an error just if no text begins so. */
    private static void everySignBehind(String before, String beginning, Set<String> beginnings, boolean mayEnd) {
        for (char sign = 33; sign <= 126; sign++) {
            boolean goesOn = beginnings.contains(beginning + sign) || (mayEnd && (sign == ',' || sign == ';'));
            String text = before + beginning + sign;
            error(text, goesOn ? text.length() : text.length() - 1);
        }
    }

    // ---- promise 11: append

    static void appendTakesCodes33To126() {
        Edges.ends("code", 33, 126, Edges.ARGUMENT, (x, code) -> x.append(code));
        for (int code = 33; code <= 126; code++) {
            Check.due("append " + code, 1, new PinCylinder().append(code));
        }
    }

    static void appendDoesNotCutTheCode() {
        Edges.refusedByAll("65536 and 48", Edges.ARGUMENT, x -> x.append(65536 + 48));
        Edges.refusedByAll("256 and 48", Edges.ARGUMENT, x -> x.append(256 + 48));
    }

    static void appendTakes60Characters() {
        PinCylinder x = new PinCylinder();
        for (int i = 1; i <= 60; i++) {
            Check.due("append", i, x.append(126));
        }
    }

    static void appendOfThe61stIsRefused() {
        Edges.refused("append", Edges.STATE, () -> with(times("0", 60)), x -> x.append('0'));
        Edges.refused("append", Edges.STATE, () -> Edges.filled(Edges.begun()), x -> x.append('0'));
        Edges.refused("append", Edges.STATE, () -> Edges.filled(Edges.busy()), x -> x.append('0'));
        Check.due("the 60th", 60, with(times("0", 59)).append('0'));
    }

    static void appendOfAWrongCodeComesFirst() {
        Edges.refused("code 32", Edges.ARGUMENT, () -> with(times("0", 60)), x -> x.append(32));
        Edges.refused("code 127", Edges.ARGUMENT, () -> Edges.filled(Edges.busy()), x -> x.append(127));
    }

    static void appendIsNotUndoable() {
        PinCylinder x = Edges.begun();
        int saved = x.count(17);
        x.append('0');
        Check.due("saved states", saved, x.count(17));
    }

    // ---- promise 12: clearBuffer

    static void clearBufferOfAnEmptyBuffer() {
        Check.due("clearBuffer", 0, new PinCylinder().clearBuffer());
    }

    static void clearBufferOfAFullBuffer() {
        PinCylinder x = with(times("0", 60));
        Check.due("clearBuffer", 60, x.clearBuffer());
        Check.due("again", 0, x.clearBuffer());
        Check.due("append", 1, x.append('0'));
    }

    static void clearBufferLeavesNothingOfTheText() {
        PinCylinder x = with("0/0:0;0/");
        x.clearBuffer();
        Check.write(x, "1:2");
        Check.due("firstError", 1, x.firstError());
    }

    static void clearBufferIsNotUndoable() {
        PinCylinder x = Edges.begun();
        int saved = x.count(17);
        x.clearBuffer();
        Check.due("saved states", saved, x.count(17));
    }

    // ---- promise 13: firstError

    static void firstErrorOfAnEmptyBufferIsItsLength() {
        error("", 0);
    }

    static void firstErrorOfAFullBufferIsItsLength() {
        error(times("0/0:0;", 10), 60);
        error("0/0:" + times("1,2,", 14), 60);
    }

    static void firstErrorAtTheEndsOfAFullBuffer() {
        error(times("3", 60), 0);
        error("0/0:" + times("1,2,", 13) + "1,2-", 60);
        error("0/0:" + times("1,2,", 13) + "1,2/", 59);
    }

    static void firstErrorIsTheFirstOne() {
        error("0/0:32,32", 5);
        error("0/0:0!!", 5);
        error("!0/0:0!", 0);
    }

    static void firstErrorChangesNothing() {
        Edges.changesNothing("firstError", x -> x.firstError());
    }

    static void aTextOfAnyLengthMayGoOnBeyondTheBuffer() {
        error(times("0/0:0;", 9) + "0/0:0,", 60);
        error(times("0/0:0;", 9) + "0/11:1", 60);
        error(times("0/0:0;", 9) + "2/1:0-", 60);
        error(times("0/0:0;", 9) + "2/1:31", 60);
        error(times("0/0:0;", 9) + "22/1:3", 55);
    }

    static void tunesAre0To2() {
        everySignBehind("", "", HEAD_BEGINNINGS, false);
        everySignBehind("2/11:0-31;", "", HEAD_BEGINNINGS, false);
    }

    static void teethAre0To11WithoutALeadingZero() {
        for (String beginning : HEAD_BEGINNINGS) {
            if (!HEADS.contains(beginning)) {
                everySignBehind("", beginning, HEAD_BEGINNINGS, false);
                everySignBehind("1/10:7,0-31;", beginning, HEAD_BEGINNINGS, false);
            }
        }
    }

    static void stepsAre0To31WithoutALeadingZeroAndRangesGoUp() {
        for (String beginning : ITEM_BEGINNINGS) {
            boolean mayEnd = ITEMS.contains(beginning);
            everySignBehind("0/0:", beginning, ITEM_BEGINNINGS, mayEnd);
            everySignBehind("2/11:0-31,", beginning, ITEM_BEGINNINGS, mayEnd);
            everySignBehind("2/11:30-31;1/10:", beginning, ITEM_BEGINNINGS, mayEnd);
        }
    }

    static void aMinusBehind31IsAnError() {
        error("0/0:31-", 6);
        error("0/0:30-", 7);
    }

    static void behind7MinusA3MayGoOnButA4MayNot() {
        error("0/0:7-3", 7);
        error("0/0:7-4", 6);
        error("0/0:7-3,", 7);
        error("0/0:7-3;", 7);
        error("0/0:7-30", 8);
        error("0/0:7-31", 8);
        error("0/0:7-32", 7);
    }

    static void theTermsOwnTextsAreComplete() {
        for (String head : HEADS) {
            for (String item : ITEMS) {
                PinCylinder x = with(head + item);
                int dash = item.indexOf('-');
                int from = Integer.parseInt(dash < 0 ? item : item.substring(0, dash));
                int to = Integer.parseInt(item.substring(dash + 1));
                Check.due("pins of " + head + item, to - from + 1, x.pins());
                Check.due("the buffer then", 0, x.clearBuffer());
            }
        }
    }

    // ---- promise 14: pins

    static void pinsOfAnEmptyBufferIsRefused() {
        incomplete("");
    }

    static void pinsOfATextThatIsNotCompleteIsRefused() {
        for (String beginning : HEAD_BEGINNINGS) {
            incomplete(beginning);
            incomplete("0/0:0;" + beginning);
        }
        for (String beginning : ITEM_BEGINNINGS) {
            if (!ITEMS.contains(beginning)) {
                incomplete("2/11:" + beginning);
                incomplete("0/0:1,0-1;0/0:31," + beginning);
            }
        }
    }

    static void pinsOfAFullBufferThatIsNotCompleteIsRefused() {
        incomplete(times("0/0:0;", 10));
        incomplete("0/0:" + times("1,2,", 13) + "1,2-");
    }

    static void pinsOfATextWithAnErrorIsRefused() {
        String[] texts = {"3", "0/0:0!", "!0/0:0", "0/0:32", "0/0:31-", "0/0:7-7", "0/0:5;!", "0/0:0-1-2"};
        for (String text : texts) {
            Edges.refused("pins of " + text, Edges.ARGUMENT, () -> with(text), x -> x.pins());
            PinCylinder x = with(text);
            Check.thrownBy(() -> x.pins());
            Check.due("the buffer stays", text.length(), x.clearBuffer());
            Check.due("no pin is set", 0, x.count(10));
        }
    }

    static void pinsOfAWrongTextKeepsFullSavedStates() {
        Edges.refused("pins", Edges.ARGUMENT, Edges::busy, x -> x.pins());
    }

    static void pinsOfAFullBuffer() {
        String text = "0/0:" + times("1,2,", 13) + "3,31";
        Check.due("length", 60, text.length());
        PinCylinder x = with(text);
        Check.due("pins", 4, x.pins());
        Check.due("the buffer then", 0, x.clearBuffer());
        Check.due("saved states", 1, x.count(17));
    }

    static void pinsSetsBothEndsOfARangeAndNothingBeyond() {
        int[][] ranges = {{0, 31}, {0, 1}, {30, 31}, {9, 10}, {19, 20}, {7, 30}};
        for (int[] range : ranges) {
            PinCylinder x = with("2/11:" + range[0] + "-" + range[1]);
            Check.due("pins", range[1] - range[0] + 1, x.pins());
            for (int step = 0; step < 32; step++) {
                int due = step >= range[0] && step <= range[1] ? 1 << 11 : 0;
                Check.due("chord " + step, due, x.chord(2, step));
            }
            Check.due("pins of all tunes", x.tune(2, 0), x.count(10));
        }
    }

    static void pinsSetsEachRangeFromItsFirstStepOn() {
        PinCylinder x = new PinCylinder();
        x.set(3, 3);
        Check.due("pins", 10, Check.set(x, "0/0:0-31"));
        for (int step = 0; step < 32; step++) {
            Check.due("chord " + step, step % 3 == 0 && step < 30 ? 1 : 0, x.chord(0, step));
        }
        x.set(3, 8);
        Check.due("from the step 5 on", 4, Check.set(x, "1/0:5-31,0"));
        Check.due("chords", 4, x.chord(1, 5) + x.chord(1, 13) + x.chord(1, 21) + x.chord(1, 29));
    }

    static void pinsSetsOneAfterTheOther() {
        PinCylinder x = new PinCylinder();
        x.set(3, 2);
        Check.due("a later one is hindered by one before", 2, Check.set(x, "0/0:4,3,5,2"));
        Check.due("4", 1, x.chord(0, 4));
        Check.due("2", 1, x.chord(0, 2));
        x.set(4, 1);
        Check.due("a step that gets full", 1, Check.set(x, "1/0:9;1/1:9;1/2:9"));
        Check.due("the first one", 1, x.chord(1, 9));
        Check.due("a pin twice", 1, Check.set(x, "2/0:9,9;2/0:9"));
    }

    static void pinsThatCannotBeSetReturns0AndClearsTheBuffer() {
        PinCylinder x = Edges.full(0);
        Check.write(x, "0/0:0-31;0/11:31");
        Check.due("pins", 0, x.pins());
        Check.due("the buffer then", 0, x.clearBuffer());
    }

    static void pinsIsUndoableAsOneCall() {
        PinCylinder x = with("0/0:0-31;1/5:3,4;2/11:31");
        Check.due("pins", 35, x.pins());
        Check.due("saved states", 1, x.count(17));
        Check.due("undo", 0, x.undo());
        Check.due("pins then", 0, x.count(10));
    }

    static void pinsIsUndoableAlsoIfNoneIsSet() {
        PinCylinder x = with("0/0:0");
        x.pins();
        Check.write(x, "0/0:0");
        Check.due("pins", 0, x.pins());
        Check.due("saved states", 2, x.count(17));
        Check.due("undo", 1, x.undo());
        Check.due("the pin", 1, x.count(10));
    }

    static void pinsDropsTheOldestStateOfSix() {
        PinCylinder x = Edges.busy();
        x.clearBuffer();
        Check.write(x, "2/0:0-3");
        Check.due("pins", 4, x.pins());
        Check.due("saved states", 6, x.count(17));
        Check.due("undo", 5, x.undo());
        PinCylinder y = Edges.busy();
        y.clearBuffer();
        y.wind(1);
        y.undo();
        Edges.alike("undo of pins", x, y);
    }
}
