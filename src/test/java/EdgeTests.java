import java.util.ArrayList;
import java.util.List;

/**
 * What the tests of edges share. A refused call is made on one of two objects that have the same
 * past: what both are afterwards must be the same, but for status().
 */
abstract class EdgeTests {
    static final int BEYOND = -1000000001;
    static final int FULL = -1000000002;
    static final int KIND = -1000000003;
    static final int NONE = -1000000004;
    static final int STATE = -1000000005;
    static final int MISSING = -1000000006;
    static final int SIZE = -1000000007;
    static final int YARD = 0;
    static final int SEA = 1;
    static final int STREET = 2;
    static final int SKY = 3;
    static final int STEEPLE = 4;
    static final int GARDEN = 5;
    static final int LOW = Integer.MIN_VALUE;
    static final int HIGH = Integer.MAX_VALUE;
    private static final int FINDINGS = 7;
    // Its lowest 8, 16 and 64 bits are three different numbers, so that it tells the bits of a sheet.
    private static final long MARK = 0x123456789abcL;

    /** What has been done with an object ahead of a test. */
    interface Past {
        void of(ViewTrades x);
    }

    interface Act {
        long on(ViewTrades x);
    }

    interface ActWithNumber {
        long on(ViewTrades x, int v);
    }

    private final Checks c = new Checks();
    private Past past;
    ViewTrades x;

    abstract void runAll();

    void runAndFinish() {
        runAll();
        c.finish();
    }

    // ---- what a test says

    void begin(String sentence, Past given) {
        c.begin(sentence);
        past = given;
        x = fresh();
    }

    void begin(String sentence) {
        begin(sentence, EdgeTests::nothing);
    }

    void end() {
        c.end();
    }

    void due(String what, long got, long want) {
        c.due(what, got, want);
    }

    /** The finding, that it is counted once and as no other, and that all else is as it was. */
    void refused(String what, int finding, Act act) {
        ViewTrades asked = fresh();
        ViewTrades twin = fresh();
        due(what, act.on(asked), finding);
        for (int i = 0; i < FINDINGS; i++) {
            int one = BEYOND - finding == i ? 1 : 0;
            due(what + ", and then status(" + i + ")", asked.status(i), twin.status(i) + one);
        }
        due(what + ", and then status(-1)", asked.status(-1), twin.status(-1) + 1);
        dueAlike(what, asked, twin);
    }

    /** The test of one number that a call takes: its ends, and what lies just and far beyond them. */
    void range(String sentence, Past given, int low, long dueLow, int high, long dueHigh, ActWithNumber act) {
        begin(sentence + ": " + low + " to " + high, given);
        due("with " + low, act.on(x, low), dueLow);
        x = fresh();
        due("with " + high, act.on(x, high), dueHigh);
        for (int v : new int[] {low - 1, high + 1, LOW, HIGH}) {
            refused("with " + v, BEYOND, y -> act.on(y, v));
        }
        end();
    }

    /** The text is read in vain: its answer, no finding, and nothing changes but that THE TAPE is empty. */
    void fault(String text, int place) {
        ViewTrades asked = fresh();
        ViewTrades twin = fresh();
        twin.wipe();
        asked.wipe();
        feed(asked, text);
        due("city() of \"" + text + "\"", asked.city(), -1 - place);
        due("count(1) behind \"" + text + "\"", asked.count(1), 0);
        due("status(-1) behind \"" + text + "\"", asked.status(-1), twin.status(-1));
        dueAlike("city() of \"" + text + "\"", asked, twin);
    }

    void goodText(String text, int items) {
        x = fresh();
        x.wipe();
        feed(x, text);
        due("city() of \"" + text + "\"", x.city(), items);
        due("count(1) behind \"" + text + "\"", x.count(1), 0);
    }

    // ---- pasts

    static void nothing(ViewTrades x) {
    }

    /** A frame of each kind, 0 to 5, of owners 0 1 2 3 0 1. */
    static void six(ViewTrades x) {
        for (int k = 0; k < 6; k++) {
            x.frame(k, k % 4);
        }
    }

    static void yards(ViewTrades x, int n, int owner) {
        for (int f = 0; f < n; f++) {
            x.frame(YARD, owner);
        }
    }

    /** The six, and something in all else that an object holds. */
    static void stand(ViewTrades x) {
        x.money(3, 55);
        x.image();
        x.money(3, 100);
        six(x);
        feed(x, "money 2 77");
        x.sheet(0, 8, 40);
        x.sheet(1, 16, 40);
        x.sheet(2, 64, 3);
        x.sheet(3, 64, 40);
        for (int s = 0; s < 4; s++) {
            x.write(s, 0, 10 + s);
            x.write(s, 2, -1 - s);
        }
    }

    static void standWithEight(ViewTrades x) {
        stand(x);
        x.frame(YARD, 2);
        x.frame(SEA, 3);
    }

    static void hours(ViewTrades x, int n) {
        for (int left = n; left > 0; left -= 200) {
            x.hours(Math.min(200, left));
        }
    }

    static void feed(ViewTrades x, String text) {
        for (int at = 0; at < text.length(); at += 4) {
            int many = Math.min(4, text.length() - at);
            int bytes = 0;
            for (int i = 0; i < many; i++) {
                bytes = bytes << 8 | text.charAt(at + i);
            }
            x.feed(bytes, many);
        }
    }

    // ---- what an object is

    private ViewTrades fresh() {
        ViewTrades made = new ViewTrades();
        past.of(made);
        return made;
    }

    private void dueAlike(String what, ViewTrades asked, ViewTrades twin) {
        List<Long> got = allOf(asked);
        List<Long> want = allOf(twin);
        if (!got.equals(want)) {
            c.wrong(what + " changed something: " + got + ", due is " + want);
        }
    }

    /** The object is used up by it: THE TAPE is read, the sheets are written to, the image comes back. */
    private static List<Long> allOf(ViewTrades x) {
        List<Long> all = new ArrayList<>();
        addCity(all, x);
        all.add((long) x.count(1));
        all.add((long) x.city());
        addCity(all, x);
        for (int s = 0; s < 4; s++) {
            addSheet(all, x, s);
        }
        all.add((long) x.undo());
        addCity(all, x);
        all.add((long) x.tear());
        return all;
    }

    private static void addCity(List<Long> all, ViewTrades x) {
        int frames = x.count(0);
        all.add((long) frames);
        all.add((long) x.now(0));
        for (int owner = 0; owner < 4; owner++) {
            all.add((long) x.ownerOf(owner, 0));
        }
        for (int f = 0; f < frames; f++) {
            for (int what = 0; what < 3; what++) {
                all.add((long) x.frameOf(f, what));
            }
            all.add((long) x.of(f, 0));
            all.add((long) x.of(f, 1));
        }
    }

    private static void addSheet(List<Long> all, ViewTrades x, int s) {
        for (int i = 0; i <= 40; i++) {
            long was = x.write(s, i, MARK);
            all.add(was);
            if (was == MISSING) {
                return;
            }
        }
        all.add(x.write(s, 0, 0));
    }
}
