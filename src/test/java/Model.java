import java.util.ArrayDeque;
import java.util.ArrayList;
import java.util.Arrays;
import java.util.List;

/** The document a second time, in the plainest form and apart from the class, for random runs to compare with. */
final class Model {
    private static final int[][] LIMITS = {{4, 90}, {0, 20}, {0, 1}, {1, 8}, {1, 12}};
    private static final List<String> ITEMS = items();

    private static final class Note {
        final int tooth;
        final int time;

        Note(int tooth, int time) {
            this.tooth = tooth;
            this.time = time;
        }
    }

    private static final class World {
        boolean[][][] pins = new boolean[3][12][32];
        int[] ring = new int[12];
        int[] wear = new int[12];
        boolean[] broken = new boolean[12];
        int[] notesOf = new int[12];
        List<Note> notes = new ArrayList<>();
        int[] settings = {40, 6, 0, 1, 6};
        int step = 31;
        int tune = 0;
        int wind = 0;
        int vanes = 5;
        int time = 0;
        int steps = 0;
        int squeaks = 0;
        int needed = 0;

        World twin() {
            World w = new World();
            for (int t = 0; t < 3; t++) {
                for (int k = 0; k < 12; k++) {
                    w.pins[t][k] = pins[t][k].clone();
                }
            }
            w.ring = ring.clone();
            w.wear = wear.clone();
            w.broken = broken.clone();
            w.notesOf = notesOf.clone();
            w.notes = new ArrayList<>(notes);
            w.settings = settings.clone();
            w.step = step;
            w.tune = tune;
            w.wind = wind;
            w.vanes = vanes;
            w.time = time;
            w.steps = steps;
            w.squeaks = squeaks;
            w.needed = needed;
            return w;
        }

        int pinsOf(int t) {
            int n = 0;
            for (int k = 0; k < 12; k++) {
                for (int s = 0; s < 32; s++) {
                    n += pins[t][k][s] ? 1 : 0;
                }
            }
            return n;
        }

        int allPins() {
            return pinsOf(0) + pinsOf(1) + pinsOf(2);
        }

        int chord(int t, int s) {
            int mask = 0;
            for (int k = 0; k < 12; k++) {
                mask |= pins[t][k][s] ? 1 << k : 0;
            }
            return mask;
        }

        int whyNot(int t, int k, int s) {
            if (pins[t][k][s]) {
                return 1;
            }
            for (int other = 0; other < 32; other++) {
                int distance = Math.min(Math.abs(s - other), 32 - Math.abs(s - other));
                if (pins[t][k][other] && distance < settings[3]) {
                    return 2;
                }
            }
            return Integer.bitCount(chord(t, s)) >= settings[4] ? 3 : 0;
        }

        int need(int t, int s) {
            int n = 1;
            for (int k = 0; k < 12; k++) {
                n += pins[t][k][s] && !broken[k] ? 1 : 0;
            }
            return n;
        }

        boolean goOn() {
            int s = step == 31 ? 0 : step + 1;
            int t = tune;
            if (s == 0 && settings[2] == 1) {
                t = t == 2 ? 0 : t + 1;
            }
            int need = need(t, s);
            if (wind < need) {
                return false;
            }
            step = s;
            tune = t;
            wind -= need;
            needed += need;
            steps++;
            int ticks = 12 - wind / 50 + vanes;
            if (ticks < 2) {
                ticks = 2;
            }
            time += ticks;
            for (int k = 0; k < 12; k++) {
                ring[k] = ring[k] <= ticks ? 0 : ring[k] - ticks;
            }
            for (int k = 0; k < 12; k++) {
                if (pins[t][k][s] && !broken[k]) {
                    pluck(k, ticks);
                }
            }
            return true;
        }

        private void pluck(int k, int ticks) {
            if (ring[k] > 0 && ticks <= settings[1] + wear[k]) {
                squeaks++;
                if (wear[k] == 9) {
                    broken[k] = true;
                    ring[k] = 0;
                    return;
                }
                wear[k]++;
            }
            ring[k] = settings[0] - 2 * k < 4 ? 4 : settings[0] - 2 * k;
            notesOf[k]++;
            notes.add(new Note(k, time));
        }

        int play(int n) {
            int done = 0;
            while (done < n && goOn()) {
                done++;
            }
            return done;
        }

        int brokenTeeth() {
            int n = 0;
            for (boolean b : broken) {
                n += b ? 1 : 0;
            }
            return n;
        }

        int widest(int k) {
            int most = 0;
            for (int s = 0; s < 32; s++) {
                if (pins[tune][k][s]) {
                    int gap = 1;
                    while (!pins[tune][k][(s + gap) % 32]) {
                        gap++;
                    }
                    most = Math.max(most, gap);
                }
            }
            return most;
        }
    }

    private World now = new World();
    private World snapshot = null;
    private final ArrayDeque<World> saved = new ArrayDeque<>();
    private String buffer = "";

    private static List<String> items() {
        List<String> all = new ArrayList<>();
        for (int a = 0; a < 32; a++) {
            all.add("" + a);
            for (int b = a + 1; b < 32; b++) {
                all.add(a + "-" + b);
            }
        }
        return all;
    }

    private static void index(boolean good) {
        if (!good) {
            throw new IndexOutOfBoundsException();
        }
    }

    private static void argument(boolean good) {
        if (!good) {
            throw new IllegalArgumentException();
        }
    }

    private static void state(boolean good) {
        if (!good) {
            throw new IllegalStateException();
        }
    }

    private static boolean in(int v, int a, int b) {
        return a <= v && v <= b;
    }

    private static void place(int t, int k, int s) {
        index(in(t, 0, 2) && in(k, 0, 11) && in(s, 0, 31));
    }

    private void save() {
        saved.addLast(now.twin());
        if (saved.size() > 6) {
            saved.removeFirst();
        }
    }

    int pin(int t, int k, int s) {
        place(t, k, s);
        state(now.whyNot(t, k, s) == 0);
        save();
        now.pins[t][k][s] = true;
        return now.pinsOf(t);
    }

    int pull(int t, int k, int a, int b) {
        place(t, k, a);
        place(t, k, b);
        argument(b >= a);
        save();
        int before = now.pinsOf(t);
        Arrays.fill(now.pins[t][k], a, b + 1, false);
        return before - now.pinsOf(t);
    }

    int copy(int a, int b, int steps, int teeth) {
        index(in(a, 0, 2) && in(b, 0, 2));
        argument(a != b && in(steps, -31, 31) && in(teeth, -11, 11));
        save();
        now.pins[b] = new boolean[12][32];
        for (int k = 0; k < 12; k++) {
            for (int s = 0; s < 32; s++) {
                if (now.pins[a][k][s] && in(k + teeth, 0, 11)) {
                    now.pins[b][k + teeth][(s + steps + 32) % 32] = true;
                }
            }
        }
        return now.pinsOf(b);
    }

    int wind(int n) {
        argument(in(n, 1, 400));
        save();
        now.wind = Math.min(400, now.wind + n);
        return now.wind;
    }

    int vanes(int n) {
        argument(in(n, 1, 9));
        save();
        int old = now.vanes;
        now.vanes = n;
        return old;
    }

    int shift(int t) {
        index(in(t, 0, 2));
        save();
        int old = now.tune;
        now.tune = t;
        return old;
    }

    int play(int n) {
        argument(in(n, 1, 128));
        save();
        return now.play(n);
    }

    int mend(int k) {
        index(in(k, 0, 11));
        save();
        int old = now.wear[k];
        now.wear[k] = 0;
        now.ring[k] = 0;
        now.broken[k] = false;
        return old;
    }

    int set(int setting, int value) {
        index(in(setting, 0, 4));
        argument(in(value, LIMITS[setting][0], LIMITS[setting][1]));
        save();
        int old = now.settings[setting];
        now.settings[setting] = value;
        return old;
    }

    int append(int code) {
        argument(in(code, 33, 126));
        state(buffer.length() < 60);
        buffer += (char) code;
        return buffer.length();
    }

    int clearBuffer() {
        int old = buffer.length();
        buffer = "";
        return old;
    }

    private static boolean begins(String text) {
        String[] parts = text.split(";", -1);
        for (int i = 0; i < parts.length; i++) {
            if (!partBegins(parts[i], i < parts.length - 1)) {
                return false;
            }
        }
        return true;
    }

    private static boolean partBegins(String part, boolean whole) {
        for (int t = 0; t < 3; t++) {
            for (int k = 0; k < 12; k++) {
                String head = t + "/" + k + ":";
                if (part.startsWith(head)) {
                    return itemsBegin(part.substring(head.length()), whole);
                }
                if (!whole && head.startsWith(part)) {
                    return true;
                }
            }
        }
        return false;
    }

    private static boolean itemsBegin(String text, boolean whole) {
        String[] items = text.split(",", -1);
        for (int i = 0; i < items.length; i++) {
            boolean mayGoOn = !whole && i == items.length - 1;
            boolean found = false;
            for (String item : ITEMS) {
                found |= mayGoOn ? item.startsWith(items[i]) : item.equals(items[i]);
            }
            if (!found) {
                return false;
            }
        }
        return true;
    }

    int firstError() {
        for (int i = 0; i < buffer.length(); i++) {
            if (!begins(buffer.substring(0, i + 1))) {
                return i;
            }
        }
        return buffer.length();
    }

    int pins() {
        // A text is complete if another part may come behind it.
        argument(begins(buffer + ";"));
        save();
        int before = now.allPins();
        for (String part : buffer.split(";")) {
            int t = Integer.parseInt(part.substring(0, 1));
            int k = Integer.parseInt(part.substring(2, part.indexOf(':')));
            for (String item : part.substring(part.indexOf(':') + 1).split(",")) {
                String[] ends = item.split("-");
                int last = Integer.parseInt(ends[ends.length - 1]);
                for (int s = Integer.parseInt(ends[0]); s <= last; s++) {
                    if (now.whyNot(t, k, s) == 0) {
                        now.pins[t][k][s] = true;
                    }
                }
            }
        }
        buffer = "";
        return now.allPins() - before;
    }

    int undo() {
        state(!saved.isEmpty());
        now = saved.removeLast();
        return saved.size();
    }

    int keep() {
        snapshot = now.twin();
        return now.allPins();
    }

    int restore() {
        state(snapshot != null);
        save();
        now = snapshot.twin();
        return now.allPins();
    }

    int whyNot(int t, int k, int s) {
        place(t, k, s);
        return now.whyNot(t, k, s);
    }

    int next(int t, int k, int s) {
        place(t, k, s);
        for (int i = 0; i < 32; i++) {
            if (now.pins[t][k][(s + i) % 32]) {
                return (s + i) % 32;
            }
        }
        return -1;
    }

    int tune(int t, int what) {
        index(in(t, 0, 2));
        argument(in(what, 0, 4));
        int most = 0;
        int first = 0;
        int mask = 0;
        for (int s = 31; s >= 0; s--) {
            int pins = Integer.bitCount(now.chord(t, s));
            if (pins >= most) {
                most = pins;
                first = s;
            }
            mask |= now.chord(t, s);
        }
        return new int[] {now.pinsOf(t), now.pinsOf(t), most, first, mask}[what];
    }

    int chord(int t, int s) {
        index(in(t, 0, 2) && in(s, 0, 31));
        return now.chord(t, s);
    }

    int tooth(int k, int what) {
        index(in(k, 0, 11));
        argument(in(what, 0, 4));
        return new int[] {now.ring[k], now.wear[k], now.broken[k] ? 1 : 0, now.notesOf[k], now.widest(k)}[what];
    }

    int note(int back, int what) {
        argument(in(back, 0, 23) && in(what, 0, 1));
        int i = now.notes.size() - 1 - back;
        if (i < 0) {
            return -1;
        }
        return what == 0 ? now.notes.get(i).tooth : now.notes.get(i).time;
    }

    int count(int what) {
        argument(in(what, 0, 17));
        int ringing = 0;
        for (int r : now.ring) {
            ringing += r > 0 ? 1 : 0;
        }
        int[] s = now.settings;
        return new int[] {now.step, now.tune, now.wind, now.vanes, now.time, now.steps, now.notes.size(),
            now.squeaks, ringing, now.brokenTeeth(), now.allPins(), now.needed,
            s[0], s[1], s[2], s[3], s[4], saved.size()}[what];
    }

    int ifPlayed(int steps, int what) {
        argument(in(steps, 1, 128) && in(what, 0, 4));
        World w = now.twin();
        int done = w.play(steps);
        return new int[] {done, w.notes.size() - now.notes.size(), w.squeaks - now.squeaks, w.time - now.time,
            w.brokenTeeth() - now.brokenTeeth()}[what];
    }

    int fewestVanes() {
        for (int v = 1; v < 10; v++) {
            World w = now.twin();
            w.vanes = v;
            w.play(32);
            if (w.squeaks == now.squeaks) {
                return v;
            }
        }
        return -1;
    }

    int windFor(int turns) {
        argument(in(turns, 1, 9));
        int sum = 0;
        int t = now.tune;
        for (int i = 1; i <= 32 * turns; i++) {
            int s = (now.step + i) % 32;
            if (s == 0 && now.settings[2] == 1) {
                t = (t + 1) % 3;
            }
            sum += now.need(t, s);
        }
        return sum;
    }

    double clean() {
        int notes = now.notes.size();
        return notes == 0 ? 1.0 : (double) Math.max(0, notes - now.squeaks) / notes;
    }

    long digest() {
        List<Long> list = new ArrayList<>();
        for (int i = 0; i < 18; i++) {
            list.add((long) count(i));
        }
        for (int t = 0; t < 3; t++) {
            for (int i = 0; i < 5; i++) {
                list.add((long) tune(t, i));
            }
            for (int s = 0; s < 32; s++) {
                list.add((long) chord(t, s));
            }
        }
        for (int k = 0; k < 12; k++) {
            for (int i = 0; i < 5; i++) {
                list.add((long) tooth(k, i));
            }
        }
        for (int back = 0; back < 24 && note(back, 0) >= 0; back++) {
            list.add((long) note(back, 0));
            list.add((long) note(back, 1));
        }
        for (int i = 0; i < 5; i++) {
            list.add((long) ifPlayed(40, i));
        }
        list.add((long) fewestVanes());
        list.add((long) windFor(2));
        list.add(Double.doubleToLongBits(clean()));
        list.add((long) buffer.length());
        for (char c : buffer.toCharArray()) {
            list.add((long) c);
        }
        long hash = 3797;
        for (long v : list) {
            hash = 31 * hash + v;
        }
        return hash;
    }
}
