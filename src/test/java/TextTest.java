/** The buffer, its first syntax error, and the pins in it: promises 11 to 14. */
public final class TextTest {
    private TextTest() {
    }

    public static void main(String[] args) {
        append();
        clearBuffer();
        completeTexts();
        textsThatMayGoOn();
        syntaxErrors();
        pinsSet();
        pinsLeaveOut();
        pinsUndo();
        pinsRefuse();
        Check.end();
    }

    private static void append() {
        PinCylinder x = new PinCylinder();
        Check.noArgument("append(32)", x, () -> x.append(32));
        Check.noArgument("append(127)", x, () -> x.append(127));
        Check.noArgument("append(65536 + 48)", x, () -> x.append(65536 + 48));
        Check.noArgument("append(-1)", x, () -> x.append(-1));
        Check.due("append(33)", 1, x.append(33));
        Check.due("append(126)", 2, x.append(126));
        for (int i = 3; i <= 60; i++) {
            Check.due("append " + i, i, x.append(48));
        }
        Check.noState("append to a full buffer", x, () -> x.append(48));
        Check.noArgument("a wrong code comes first", x, () -> x.append(32));
        Check.due("append is not undoable", 0, x.count(17));
    }

    private static void clearBuffer() {
        PinCylinder x = new PinCylinder();
        Check.due("clearBuffer of none", 0, x.clearBuffer());
        Check.write(x, "0/0:");
        Check.due("clearBuffer", 4, x.clearBuffer());
        Check.due("clearBuffer again", 0, x.clearBuffer());
        Check.due("firstError then", 0, x.firstError());
        Check.due("clearBuffer is not undoable", 0, x.count(17));
        Check.due("append then", 1, x.append(48));
    }

    private static void error(String text, int want) {
        PinCylinder x = new PinCylinder();
        Check.write(x, text);
        long before = x.digest();
        Check.due("firstError of " + text, want, x.firstError());
        Check.due("digest behind firstError", before, x.digest());
    }

    private static void completeTexts() {
        String[] texts = {"0/0:0", "1/1:1", "2/11:31", "2/10:30", "0/9:9", "0/0:0-1", "0/0:0-31", "0/0:30-31",
            "0/0:9-10", "0/0:7-31", "0/0:2-3", "0/0:3-4", "0/0:19-20", "0/0:18-19", "0/0:0,0,0", "0/0:3-5,1,9-12",
            "0/0:5;0/0:5", "0/1:1;2/3:31,30,29-30;1/10:0-9"};
        for (String text : texts) {
            error(text, text.length());
            PinCylinder x = new PinCylinder();
            Check.write(x, text);
            Check.due(text + " is complete", 0, Check.thrownBy(() -> x.pins()).equals("nothing") ? 0 : 1);
            Check.due("the buffer is cleared behind " + text, 0, x.clearBuffer());
        }
    }

    /** No error is in these, but they are not complete. */
    private static void textsThatMayGoOn() {
        String[] texts = {"", "0", "2/", "0/1", "0/1:", "0/11", "0/11:", "0/0:7-", "0/0:7-3", "0/0:7-1", "0/0:7-2",
            "0/0:25-2", "0/0:29-3", "0/0:30-3", "0/0:3-1", "0/0:1,", "0/0:1;", "0/0:1-2,", "0/0:1-2;", "0/0:1;0",
            "0/0:1-1", "0/0:9-1", "0/0:3-3", "0/0:18-1", "0/0:28-2", "0/0:30-3"};
        for (String text : texts) {
            error(text, text.length());
            PinCylinder x = new PinCylinder();
            Check.write(x, text);
            Check.noArgument("pins of " + text, x, () -> x.pins());
            Check.due("the buffer stays", text.length(), x.clearBuffer());
        }
    }

    private static void syntaxErrors() {
        String[] texts = {"3", "/", ";", ",", "a", "-", "00", "0:", "0/;", "0//", "0/a", "0/00", "0/01", "0/12", "0/20",
            "0/1/", "0/100", "0/110", "0/0::", "0/0:;", "0/0:,", "0/0:-", "0/0:00", "0/0:01", "0/0:32", "0/0:40",
            "0/0:99", "0/0:100", "0/0:310", "0/0:1:", "0/0:1/", "0/0:31-", "0/0:7-4", "0/0:7-7", "0/0:7-0",
            "0/0:7-32", "0/0:7-3,", "0/0:7-3;", "0/0:7-1,", "0/0:25-24", "0/0:25-25", "0/0:25-1", "0/0:25-26-",
            "0/0:29-2", "0/0:30-30", "0/0:30-4", "0/0:1-2-", "0/0:1-2:", "0/0:1--", "0/0:1-,", "0/0:0-0", "0/0:1,,",
            "0/0:1,;", "0/0:1;;", "0/0:1;3", "0/0:1;,", "0/0:1;0/12", "0/0:1-100", "0/0:1-310", "0/0:8-90",
            "0/0:1-1-", "0/0:3-33", "0/0:1-1,", "0/0:19-1", "0/0:~", "0/0:1!"};
        for (String text : texts) {
            error(text, text.length() - 1);
            error(text + "0/0:1", text.length() - 1);
            PinCylinder x = new PinCylinder();
            Check.write(x, text);
            Check.noArgument("pins of " + text, x, () -> x.pins());
            Check.due("the buffer stays", text.length(), x.clearBuffer());
        }
    }

    private static void pinsSet() {
        PinCylinder x = new PinCylinder();
        Check.due("pins of all sorts", 10, Check.set(x, "0/0:3;1/11:30-31,0,7-9;2/10:10-11,31"));
        int[][] places = {{0, 0, 3}, {1, 11, 30}, {1, 11, 31}, {1, 11, 0}, {1, 11, 7}, {1, 11, 8}, {1, 11, 9},
            {2, 10, 10}, {2, 10, 11}, {2, 10, 31}};
        for (int[] p : places) {
            Check.due("the pin " + p[0] + "/" + p[1] + ":" + p[2], 1 << p[1], x.chord(p[0], p[2]));
        }
        Check.due("no others", 10, x.count(10));
    }

    private static void pinsLeaveOut() {
        PinCylinder x = new PinCylinder();
        Check.due("a step twice", 4, Check.set(x, "0/0:1,1-3,2,0"));
        Check.due("all there", 0, Check.set(x, "0/0:0-3"));
        x.set(3, 3);
        Check.due("each range from its first step on", 4, Check.set(x, "0/1:1-12"));
        Check.due("1", 1 << 1, x.chord(0, 1) & 1 << 1);
        Check.due("4", 1 << 1, x.chord(0, 4));
        Check.due("5", 0, x.chord(0, 5));
        Check.due("one after the other", 2, Check.set(x, "0/2:12,11,9"));
        x.set(3, 1);
        x.set(4, 2);
        Check.due("all but the full step 1", 31, Check.set(x, "0/5:0-31"));
        Check.due("none into full steps", 0, Check.set(x, "0/6:1-2"));
    }

    private static void pinsUndo() {
        PinCylinder x = new PinCylinder();
        Check.set(x, "0/0:0-31;1/1:5");
        Check.due("one saved state", 1, x.count(17));
        Check.set(x, "0/0:0-31");
        Check.due("also if none is set", 2, x.count(17));
        Check.write(x, "2/2");
        x.undo();
        x.undo();
        Check.due("all are gone", 0, x.count(10));
        Check.due("the buffer is not undone", 3, x.clearBuffer());
    }

    private static void pinsRefuse() {
        PinCylinder x = new PinCylinder();
        Check.noArgument("pins of nothing", x, () -> x.pins());
        Check.write(x, "0/0:1;0/1:2,");
        Check.noArgument("pins of a text that is not complete", x, () -> x.pins());
        Check.due("nothing is set", 0, x.count(10));
        x.append('x');
        Check.noArgument("pins of a text with an error", x, () -> x.pins());
        Check.due("the buffer stays", 13, x.clearBuffer());
        Check.due("no saved state", 0, x.count(17));
    }
}
